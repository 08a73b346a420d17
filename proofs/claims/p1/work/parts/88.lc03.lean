set_option maxHeartbeats 40000000 in
set_option maxRecDepth 100000 in
theorem hw_case968 {p : Program} {e : Env} {s : State} {m : MethodId} {below : List Frame} {meth : Method} {c : Code} (l : Launch) {b L : Nat} {xs : Nat → Int32} {D : hw_D} {G : Nat → Nat} {H : Heap} {locs : List Loc} {x mo : Nat} {ls : Array Slot} (hL : L ≤ 6) (hL6 : 6 ≤ L) (hx : p.tables.exec = Jvm.exec) (hb : c.code = code) (hr : meth.sig.returnType = ret) (hml : c.maxLocals = 4) (hown : s.vm.findClass R_law = some m.cls) (hts0 : ∀ w ∈ lw_tbl, w.before #[Value.ref b] s = true) (hts : ∀ w ∈ wsL_law, w.before #[Value.ref b] s = true) (hX : va_X b L xs s s.heap) (hbl : b < s.heap.size) (hlocks : meth.locks = false) (hG0 : G = fun _ => 0) (hK : va_K D.1 vwCl (hw_ty D.2.1) s) (hST : hw_ST D.2.2 G s.heap.size s) (hF : hw_F0 D G s H x mo) (hS : va_S (hw_AW G [1, 2, 3, 4, 5, 6, 7, 8, 9, 10, 11, 12, 13, 14, 15, 16, 17, 18, 19, 20, 21, 22, 23, 24, 25, 26, 27, 28, 29, 30, 31, 32, 40, 42, 44, 45, 46, 48, 49, 50, 51, 53, 55, 58, 59, 67, 68, 69, 70, 71, 72, 73, 74, 75, 76, 77, 78, 79, 80, 81, 82, 83, 84, 101, 102, 103, 104, 105, 106, 107, 108, 109, 127, 128, 129, 132] s.heap.size) s.heap H locs) (hl : lv_has ls 4 [(3, .int 0), (2, .ref mo), (1, .ref x), (0, .ref b)]) : W p l e room_1 s m #[Value.ref b] below meth c H locs 200 8000 (lw_Z below #[Value.ref b] s) (F0 m 968 ls []) := by
  have hH0 : hw_HT D G s.heap := fun a h => absurd (by rw [hG0]) h
  have hbA : ¬ (hw_AW G [1, 2, 3, 4, 5, 6, 7, 8, 9, 10, 11, 12, 13, 14, 15, 16, 17, 18, 19, 20, 21, 22, 23, 24, 25, 26, 27, 28, 29, 30, 31, 32, 40, 42, 44, 45, 46, 48, 49, 50, 51, 53, 55, 58, 59, 67, 68, 69, 70, 71, 72, 73, 74, 75, 76, 77, 78, 79, 80, 81, 82, 83, 84, 101, 102, 103, 104, 105, 106, 107, 108, 109, 127, 128, 129, 132] s.heap.size) b := hw_AWn (k := 0) (by rw [hG0]) (by decide) hbl
  have hLi : (Int32.ofNat L).toInt = (L : Int) := nI_toInt (by omega)
  obtain ⟨G1, rx, rc, rt, rn, fq, rm, fro, fik, fla, fsz, hH, hGe1, wx, wm, gx, gm, Rx, vx, Rc, vc, Rt, vt, Rn, vn, vq, hRK, Rm, vm, vro, hro, vik, hik, vla, vsz, hfs⟩ := hF
  have hHs := hH0
  obtain ⟨la, hla⟩ : ∃ z : Nat → Int32, z = fun _ => -1 := ⟨_, rfl⟩
  obtain ⟨sz9, hsz9⟩ : ∃ z : Nat → Int32, z = fun _ => 0 := ⟨_, rfl⟩
  rw [← hla, ← hsz9] at hRK
  have qq := hRK.q
  have qsz : ∀ j, j < 4 → -1 ≤ (fsz j).toInt ∧ (fsz j).toInt ≤ 24 := fun j hj => by rw [hfs j hj]; decide
  have hro0 : (fro 0).toInt = 0 := by rw [hro]; rfl
  have hro1 : (fro 1).toInt = 0 := by rw [hro]; rfl
  have hro2 : (fro 2).toInt = 0 := by rw [hro]; rfl
  have hla1 : (la (xs 1).toNatClampNeg).toInt = -1 := by rw [hla]; rfl
  have hfs1 : 0 ≤ (xs 1).toInt ∧ (xs 1).toInt ≤ 3 → (fsz (xs 1).toNatClampNeg).toInt = -1 := fun h9 => by rw [hfs _ (hw_i4 h9)]; rfl
  have hla2 : (la (xs 2).toNatClampNeg).toInt = -1 := by rw [hla]; rfl
  have hfs2 : 0 ≤ (xs 2).toInt ∧ (xs 2).toInt ≤ 3 → (fsz (xs 2).toNatClampNeg).toInt = -1 := fun h9 => by rw [hfs _ (hw_i4 h9)]; rfl
  have hla3 : (la (xs 3).toNatClampNeg).toInt = -1 := by rw [hla]; rfl
  have hfs3 : 0 ≤ (xs 3).toInt ∧ (xs 3).toInt ≤ 3 → (fsz (xs 3).toNatClampNeg).toInt = -1 := fun h9 => by rw [hfs _ (hw_i4 h9)]; rfl
  have hik1 : (fik (xs 1).toNatClampNeg).toInt = 0 := by rw [hik]; rfl
  refine lv_aload_n hx hb dL_law_968 rfl (lv_at hl 2 rfl) ?_
  refine lv_aload_n hx hb dL_law_969 rfl (lv_at hl 3 rfl) ?_
  refine lv_iload_n hx hb dL_law_970 rfl (lv_at hl 0 rfl) ?_
  refine lv_iconst (v := 1) hx hb dL_law_971 (by decide) ?_
  refine lv_iadd hx hb dL_law_972 ?_
  refine W.eq (g2 := F0 m 973 ls [.int 1, .ref b, .ref x]) rfl ?_
  refine va_sld hx hb hX hbl hbA hS (hw_in (x := 1) (by decide) (by have h9 : (1 : Int32).toInt = 1 := rfl; omega)) dL_law_973 ?_
  refine W.eq (g2 := F0 m 974 ls [.int (xs 1), .ref x]) rfl ?_
  refine lv_aload_n hx hb dL_law_974 rfl (lv_at hl 3 rfl) ?_
  refine lv_iload_n hx hb dL_law_975 rfl (lv_at hl 0 rfl) ?_
  refine lv_iconst (v := 2) hx hb dL_law_976 (by decide) ?_
  refine lv_iadd hx hb dL_law_977 ?_
  refine W.eq (g2 := F0 m 978 ls [.int 2, .ref b, .int (xs 1), .ref x]) rfl ?_
  refine va_sld hx hb hX hbl hbA hS (hw_in (x := 2) (by decide) (by have h9 : (2 : Int32).toInt = 2 := rfl; omega)) dL_law_978 ?_
  refine W.eq (g2 := F0 m 979 ls [.int (xs 2), .int (xs 1), .ref x]) rfl ?_
  refine hw_cR (va_runV (As := [.int (xs 1), .int (xs 2)]) (rest := []) ⟨hx, hb, hml, hown, hts⟩ (k_X11_look l D G1 x (xs 1) (xs 2) _ la sz9 rx 0 0 0 0 fq gx Rx ⟨by first | decide | omega, by first | decide | omega⟩ qq) (cwV 2 hts gL_law_X11_look rfl rfl rfl (by decide +kernel) ⟨Nat.le_of_ble_eq_true rfl, Nat.le_of_ble_eq_true rfl⟩) (hw_pV (hw_rc (q := (RX11, TX11, 14)) hK vx rfl) hH hK hST hS (by decide) (hw_hG hGe1) ⟨vx, vq, hRK⟩) rfl rfl hl.1 rfl (lv_room (Nat.le_of_ble_eq_true rfl)) dL_law_979 ⟨Nat.le_of_ble_eq_true rfl, Nat.le_of_ble_eq_true rfl⟩) (fun v hp => ?_)
  have l1 : (0 : Int32).toInt = 0 := rfl
  rcases hp with ⟨rfl, q2⟩ | ⟨rfl, q3, q4⟩ | ⟨rfl, q5, q6, q7⟩ | ⟨x8, rfl, q9, q10⟩
  · refine lv_aload_n hx hb dL_law_982 rfl (lv_at hl 1 rfl) ?_
    refine lv_aload_n hx hb dL_law_983 rfl (lv_at hl 3 rfl) ?_
    refine lv_iload_n hx hb dL_law_984 rfl (lv_at hl 0 rfl) ?_
    refine lv_iconst (v := 1) hx hb dL_law_985 (by decide) ?_
    refine lv_iadd hx hb dL_law_986 ?_
    refine W.eq (g2 := F0 m 987 ls [.int 1, .ref b, .ref mo, .long (-2)]) rfl ?_
    refine va_sld hx hb hX hbl hbA hS (hw_in (x := 1) (by decide) (by have h9 : (1 : Int32).toInt = 1 := rfl; omega)) dL_law_987 ?_
    refine W.eq (g2 := F0 m 988 ls [.int (xs 1), .ref mo, .long (-2)]) rfl ?_
    refine lv_aload_n hx hb dL_law_988 rfl (lv_at hl 3 rfl) ?_
    refine lv_iload_n hx hb dL_law_989 rfl (lv_at hl 0 rfl) ?_
    refine lv_iconst (v := 2) hx hb dL_law_990 (by decide) ?_
    refine lv_iadd hx hb dL_law_991 ?_
    refine W.eq (g2 := F0 m 992 ls [.int 2, .ref b, .int (xs 1), .ref mo, .long (-2)]) rfl ?_
    refine va_sld hx hb hX hbl hbA hS (hw_in (x := 2) (by decide) (by have h9 : (2 : Int32).toInt = 2 := rfl; omega)) dL_law_992 ?_
    refine W.eq (g2 := F0 m 993 ls [.int (xs 2), .int (xs 1), .ref mo, .long (-2)]) rfl ?_
    refine hw_cR (va_runV (As := [.int (xs 1), .int (xs 2)]) (rest := [.long (-2)]) ⟨hx, hb, hml, hown, hts⟩ (k_X12_look l D G1 mo (xs 1) (xs 2) _ rm 0 0 0 0 60 0 0 0 0 0 0 0 0 0 fsz gm Rm ⟨by first | decide | omega, by first | decide | omega⟩ ⟨by first | decide | omega, by first | decide | omega⟩ ⟨by first | decide | omega, by first | decide | omega⟩ ⟨by first | decide | omega, by first | decide | omega⟩ ⟨by first | decide | omega, by first | decide | omega⟩ ⟨by first | decide | omega, by first | decide | omega⟩ ⟨by first | decide | omega, by first | decide | omega⟩ ⟨by first | decide | omega, by first | decide | omega⟩ ⟨by first | decide | omega, by first | decide | omega⟩ ⟨by first | decide | omega, by first | decide | omega⟩ ⟨by first | decide | omega, by first | decide | omega⟩ ⟨by first | decide | omega, by first | decide | omega⟩ qsz) (cwV 2 hts gL_law_X12_look rfl rfl rfl (by decide +kernel) ⟨Nat.le_of_ble_eq_true rfl, Nat.le_of_ble_eq_true rfl⟩) (hw_pV (hw_rc (q := (RX12, TX12, 45)) hK vm rfl) hH hK hST hS (by decide) (hw_hG hGe1) ⟨vm, vsz⟩) rfl rfl hl.1 rfl (lv_room (Nat.le_of_ble_eq_true rfl)) dL_law_993 ⟨Nat.le_of_ble_eq_true rfl, Nat.le_of_ble_eq_true rfl⟩) (fun v hp => ?_)
    have l11 : (60 : Int32).toInt = 60 := rfl
    rcases hp with ⟨rfl, q12⟩ | ⟨rfl, q13, q14⟩ | ⟨rfl, q15, q16, q17⟩ | ⟨x18, rfl, q19, q20⟩
    · refine W.lcmp hx hb dL_law_996 ?_
      refine lv_topi (fun x21 e22 => ?_)
      refine lv_if_eq (tgt := 1188) hx hb dL_law_997 (by decide) (fun c23 => ?_) (fun c23 => ?_)
      · have b24 := hw_cmpeq (e22 ▸ c23)
        have b25 : (-2) = (-2) := hw_Leq b24
        refine lv_iinc (v := 6) (lv' := [(3, .int 6), (2, .ref mo), (1, .ref x), (0, .ref b)]) hx hb dL_law_1188 hl (k := 0) rfl (by rfl) (by decide) rfl (fun ls hl => ?_)
        refine lv_goto (tgt := 18) hx hb dL_law_1191 (by decide) ?_
        refine lv_iload_n hx hb dL_law_18 rfl (lv_at hl 0 rfl) ?_
        refine lv_aload_n hx hb dL_law_19 rfl (lv_at hl 3 rfl) ?_
        refine va_slen hx hb hX hbl hbA hS dL_law_20 ?_
        refine lv_bipush (v := 6) hx hb dL_law_21 (by decide) ?_
        refine lv_isub hx hb dL_law_23 ?_
        refine lv_topi (fun x26 e27 => ?_)
        have t28 : x26.toInt = (Int32.ofNat L).toInt - 6 := by rw [e27]; exact hw_sub rfl rfl (by omega) (by omega)
        refine lv_icmp_gt (tgt := 1194) hx hb dL_law_24 (by decide) (fun c29 => ?_) (fun c29 => ?_)
        · have b30 : x26.toInt < 6 := hw_ilt c29
          refine lv_iconst (v := 1) hx hb dL_law_1194 (by decide) ?_
          have hfg := hw_hfg hG0 (by decide) hS.2.2
          refine va_forget hfg ?_
          refine W.widen (k := 600000) (n := 7302250) (by decide) (by decide) ?_
          exact lw_ret hx hb hr hlocks dL_law_1195
        · have b31 : 6 ≤ x26.toInt := hw_inlt c29
          exfalso; omega
      · have b32 := hw_cmpneq (e22 ▸ c23)
        have b33 : (-2) ≠ (-2) := hw_Lne b32
        exfalso
        first | omega | contradiction | (subst_vars; omega)
    · refine W.lcmp hx hb dL_law_996 ?_
      refine lv_topi (fun x34 e35 => ?_)
      refine lv_if_eq (tgt := 1188) hx hb dL_law_997 (by decide) (fun c36 => ?_) (fun c36 => ?_)
      · have b37 := hw_cmpeq (e35 ▸ c36)
        have b38 : (-2) = (-11) := hw_Leq b37
        refine lv_iinc (v := 6) (lv' := [(3, .int 6), (2, .ref mo), (1, .ref x), (0, .ref b)]) hx hb dL_law_1188 hl (k := 0) rfl (by rfl) (by decide) rfl (fun ls hl => ?_)
        refine lv_goto (tgt := 18) hx hb dL_law_1191 (by decide) ?_
        refine lv_iload_n hx hb dL_law_18 rfl (lv_at hl 0 rfl) ?_
        refine lv_aload_n hx hb dL_law_19 rfl (lv_at hl 3 rfl) ?_
        refine va_slen hx hb hX hbl hbA hS dL_law_20 ?_
        refine lv_bipush (v := 6) hx hb dL_law_21 (by decide) ?_
        refine lv_isub hx hb dL_law_23 ?_
        refine lv_topi (fun x39 e40 => ?_)
        have t41 : x39.toInt = (Int32.ofNat L).toInt - 6 := by rw [e40]; exact hw_sub rfl rfl (by omega) (by omega)
        refine lv_icmp_gt (tgt := 1194) hx hb dL_law_24 (by decide) (fun c42 => ?_) (fun c42 => ?_)
        · have b43 : x39.toInt < 6 := hw_ilt c42
          refine lv_iconst (v := 1) hx hb dL_law_1194 (by decide) ?_
          have hfg := hw_hfg hG0 (by decide) hS.2.2
          refine va_forget hfg ?_
          refine W.widen (k := 600000) (n := 7302250) (by decide) (by decide) ?_
          exact lw_ret hx hb hr hlocks dL_law_1195
        · have b44 : 6 ≤ x39.toInt := hw_inlt c42
          exfalso; omega
      · have b45 := hw_cmpneq (e35 ▸ c36)
        have b46 : (-2) ≠ (-11) := hw_Lne b45
        exfalso
        first | omega | contradiction | (subst_vars; omega)
    · refine W.lcmp hx hb dL_law_996 ?_
      refine lv_topi (fun x47 e48 => ?_)
      refine lv_if_eq (tgt := 1188) hx hb dL_law_997 (by decide) (fun c49 => ?_) (fun c49 => ?_)
      · have b50 := hw_cmpeq (e48 ▸ c49)
        have b51 : (-2) = (-13) := hw_Leq b50
        refine lv_iinc (v := 6) (lv' := [(3, .int 6), (2, .ref mo), (1, .ref x), (0, .ref b)]) hx hb dL_law_1188 hl (k := 0) rfl (by rfl) (by decide) rfl (fun ls hl => ?_)
        refine lv_goto (tgt := 18) hx hb dL_law_1191 (by decide) ?_
        refine lv_iload_n hx hb dL_law_18 rfl (lv_at hl 0 rfl) ?_
        refine lv_aload_n hx hb dL_law_19 rfl (lv_at hl 3 rfl) ?_
        refine va_slen hx hb hX hbl hbA hS dL_law_20 ?_
        refine lv_bipush (v := 6) hx hb dL_law_21 (by decide) ?_
        refine lv_isub hx hb dL_law_23 ?_
        refine lv_topi (fun x52 e53 => ?_)
        have t54 : x52.toInt = (Int32.ofNat L).toInt - 6 := by rw [e53]; exact hw_sub rfl rfl (by omega) (by omega)
        refine lv_icmp_gt (tgt := 1194) hx hb dL_law_24 (by decide) (fun c55 => ?_) (fun c55 => ?_)
        · have b56 : x52.toInt < 6 := hw_ilt c55
          refine lv_iconst (v := 1) hx hb dL_law_1194 (by decide) ?_
          have hfg := hw_hfg hG0 (by decide) hS.2.2
          refine va_forget hfg ?_
          refine W.widen (k := 600000) (n := 7302250) (by decide) (by decide) ?_
          exact lw_ret hx hb hr hlocks dL_law_1195
        · have b57 : 6 ≤ x52.toInt := hw_inlt c55
          exfalso; omega
      · have b58 := hw_cmpneq (e48 ▸ c49)
        have b59 : (-2) ≠ (-13) := hw_Lne b58
        exfalso
        first | omega | contradiction | (subst_vars; omega)
    · refine W.lcmp hx hb dL_law_996 ?_
      refine lv_topi (fun x60 e61 => ?_)
      refine lv_if_eq (tgt := 1188) hx hb dL_law_997 (by decide) (fun c62 => ?_) (fun c62 => ?_)
      · have b63 := hw_cmpeq (e61 ▸ c62)
        have b64 : (-2) = x18.toInt := hw_Leq b63
        refine lv_iinc (v := 6) (lv' := [(3, .int 6), (2, .ref mo), (1, .ref x), (0, .ref b)]) hx hb dL_law_1188 hl (k := 0) rfl (by rfl) (by decide) rfl (fun ls hl => ?_)
        refine lv_goto (tgt := 18) hx hb dL_law_1191 (by decide) ?_
        refine lv_iload_n hx hb dL_law_18 rfl (lv_at hl 0 rfl) ?_
        refine lv_aload_n hx hb dL_law_19 rfl (lv_at hl 3 rfl) ?_
        refine va_slen hx hb hX hbl hbA hS dL_law_20 ?_
        refine lv_bipush (v := 6) hx hb dL_law_21 (by decide) ?_
        refine lv_isub hx hb dL_law_23 ?_
        refine lv_topi (fun x65 e66 => ?_)
        have t67 : x65.toInt = (Int32.ofNat L).toInt - 6 := by rw [e66]; exact hw_sub rfl rfl (by omega) (by omega)
        refine lv_icmp_gt (tgt := 1194) hx hb dL_law_24 (by decide) (fun c68 => ?_) (fun c68 => ?_)
        · have b69 : x65.toInt < 6 := hw_ilt c68
          refine lv_iconst (v := 1) hx hb dL_law_1194 (by decide) ?_
          have hfg := hw_hfg hG0 (by decide) hS.2.2
          refine va_forget hfg ?_
          refine W.widen (k := 600000) (n := 7302250) (by decide) (by decide) ?_
          exact lw_ret hx hb hr hlocks dL_law_1195
        · have b70 : 6 ≤ x65.toInt := hw_inlt c68
          exfalso; omega
      · have b71 := hw_cmpneq (e61 ▸ c62)
        have b72 : (-2) ≠ x18.toInt := hw_Lne b71
        exfalso
        first | omega | contradiction | (subst_vars; omega)
  · refine lv_aload_n hx hb dL_law_982 rfl (lv_at hl 1 rfl) ?_
    refine lv_aload_n hx hb dL_law_983 rfl (lv_at hl 3 rfl) ?_
    refine lv_iload_n hx hb dL_law_984 rfl (lv_at hl 0 rfl) ?_
    refine lv_iconst (v := 1) hx hb dL_law_985 (by decide) ?_
    refine lv_iadd hx hb dL_law_986 ?_
    refine W.eq (g2 := F0 m 987 ls [.int 1, .ref b, .ref mo, .long (-11)]) rfl ?_
    refine va_sld hx hb hX hbl hbA hS (hw_in (x := 1) (by decide) (by have h9 : (1 : Int32).toInt = 1 := rfl; omega)) dL_law_987 ?_
    refine W.eq (g2 := F0 m 988 ls [.int (xs 1), .ref mo, .long (-11)]) rfl ?_
    refine lv_aload_n hx hb dL_law_988 rfl (lv_at hl 3 rfl) ?_
    refine lv_iload_n hx hb dL_law_989 rfl (lv_at hl 0 rfl) ?_
    refine lv_iconst (v := 2) hx hb dL_law_990 (by decide) ?_
    refine lv_iadd hx hb dL_law_991 ?_
    refine W.eq (g2 := F0 m 992 ls [.int 2, .ref b, .int (xs 1), .ref mo, .long (-11)]) rfl ?_
    refine va_sld hx hb hX hbl hbA hS (hw_in (x := 2) (by decide) (by have h9 : (2 : Int32).toInt = 2 := rfl; omega)) dL_law_992 ?_
    refine W.eq (g2 := F0 m 993 ls [.int (xs 2), .int (xs 1), .ref mo, .long (-11)]) rfl ?_
    refine hw_cR (va_runV (As := [.int (xs 1), .int (xs 2)]) (rest := [.long (-11)]) ⟨hx, hb, hml, hown, hts⟩ (k_X12_look l D G1 mo (xs 1) (xs 2) _ rm 0 0 0 0 60 0 0 0 0 0 0 0 0 0 fsz gm Rm ⟨by first | decide | omega, by first | decide | omega⟩ ⟨by first | decide | omega, by first | decide | omega⟩ ⟨by first | decide | omega, by first | decide | omega⟩ ⟨by first | decide | omega, by first | decide | omega⟩ ⟨by first | decide | omega, by first | decide | omega⟩ ⟨by first | decide | omega, by first | decide | omega⟩ ⟨by first | decide | omega, by first | decide | omega⟩ ⟨by first | decide | omega, by first | decide | omega⟩ ⟨by first | decide | omega, by first | decide | omega⟩ ⟨by first | decide | omega, by first | decide | omega⟩ ⟨by first | decide | omega, by first | decide | omega⟩ ⟨by first | decide | omega, by first | decide | omega⟩ qsz) (cwV 2 hts gL_law_X12_look rfl rfl rfl (by decide +kernel) ⟨Nat.le_of_ble_eq_true rfl, Nat.le_of_ble_eq_true rfl⟩) (hw_pV (hw_rc (q := (RX12, TX12, 45)) hK vm rfl) hH hK hST hS (by decide) (hw_hG hGe1) ⟨vm, vsz⟩) rfl rfl hl.1 rfl (lv_room (Nat.le_of_ble_eq_true rfl)) dL_law_993 ⟨Nat.le_of_ble_eq_true rfl, Nat.le_of_ble_eq_true rfl⟩) (fun v hp => ?_)
    have l73 : (60 : Int32).toInt = 60 := rfl
    rcases hp with ⟨rfl, q74⟩ | ⟨rfl, q75, q76⟩ | ⟨rfl, q77, q78, q79⟩ | ⟨x80, rfl, q81, q82⟩
    · refine W.lcmp hx hb dL_law_996 ?_
      refine lv_topi (fun x83 e84 => ?_)
      refine lv_if_eq (tgt := 1188) hx hb dL_law_997 (by decide) (fun c85 => ?_) (fun c85 => ?_)
      · have b86 := hw_cmpeq (e84 ▸ c85)
        have b87 : (-11) = (-2) := hw_Leq b86
        refine lv_iinc (v := 6) (lv' := [(3, .int 6), (2, .ref mo), (1, .ref x), (0, .ref b)]) hx hb dL_law_1188 hl (k := 0) rfl (by rfl) (by decide) rfl (fun ls hl => ?_)
        refine lv_goto (tgt := 18) hx hb dL_law_1191 (by decide) ?_
        refine lv_iload_n hx hb dL_law_18 rfl (lv_at hl 0 rfl) ?_
        refine lv_aload_n hx hb dL_law_19 rfl (lv_at hl 3 rfl) ?_
        refine va_slen hx hb hX hbl hbA hS dL_law_20 ?_
        refine lv_bipush (v := 6) hx hb dL_law_21 (by decide) ?_
        refine lv_isub hx hb dL_law_23 ?_
        refine lv_topi (fun x88 e89 => ?_)
        have t90 : x88.toInt = (Int32.ofNat L).toInt - 6 := by rw [e89]; exact hw_sub rfl rfl (by omega) (by omega)
        refine lv_icmp_gt (tgt := 1194) hx hb dL_law_24 (by decide) (fun c91 => ?_) (fun c91 => ?_)
        · have b92 : x88.toInt < 6 := hw_ilt c91
          refine lv_iconst (v := 1) hx hb dL_law_1194 (by decide) ?_
          have hfg := hw_hfg hG0 (by decide) hS.2.2
          refine va_forget hfg ?_
          refine W.widen (k := 600000) (n := 7302250) (by decide) (by decide) ?_
          exact lw_ret hx hb hr hlocks dL_law_1195
        · have b93 : 6 ≤ x88.toInt := hw_inlt c91
          exfalso; omega
      · have b94 := hw_cmpneq (e84 ▸ c85)
        have b95 : (-11) ≠ (-2) := hw_Lne b94
        exfalso
        first | omega | contradiction | (subst_vars; omega)
    · refine W.lcmp hx hb dL_law_996 ?_
      refine lv_topi (fun x96 e97 => ?_)
      refine lv_if_eq (tgt := 1188) hx hb dL_law_997 (by decide) (fun c98 => ?_) (fun c98 => ?_)
      · have b99 := hw_cmpeq (e97 ▸ c98)
        have b100 : (-11) = (-11) := hw_Leq b99
        refine lv_iinc (v := 6) (lv' := [(3, .int 6), (2, .ref mo), (1, .ref x), (0, .ref b)]) hx hb dL_law_1188 hl (k := 0) rfl (by rfl) (by decide) rfl (fun ls hl => ?_)
        refine lv_goto (tgt := 18) hx hb dL_law_1191 (by decide) ?_
        refine lv_iload_n hx hb dL_law_18 rfl (lv_at hl 0 rfl) ?_
        refine lv_aload_n hx hb dL_law_19 rfl (lv_at hl 3 rfl) ?_
        refine va_slen hx hb hX hbl hbA hS dL_law_20 ?_
        refine lv_bipush (v := 6) hx hb dL_law_21 (by decide) ?_
        refine lv_isub hx hb dL_law_23 ?_
        refine lv_topi (fun x101 e102 => ?_)
        have t103 : x101.toInt = (Int32.ofNat L).toInt - 6 := by rw [e102]; exact hw_sub rfl rfl (by omega) (by omega)
        refine lv_icmp_gt (tgt := 1194) hx hb dL_law_24 (by decide) (fun c104 => ?_) (fun c104 => ?_)
        · have b105 : x101.toInt < 6 := hw_ilt c104
          refine lv_iconst (v := 1) hx hb dL_law_1194 (by decide) ?_
          have hfg := hw_hfg hG0 (by decide) hS.2.2
          refine va_forget hfg ?_
          refine W.widen (k := 600000) (n := 7302250) (by decide) (by decide) ?_
          exact lw_ret hx hb hr hlocks dL_law_1195
        · have b106 : 6 ≤ x101.toInt := hw_inlt c104
          exfalso; omega
      · have b107 := hw_cmpneq (e97 ▸ c98)
        have b108 : (-11) ≠ (-11) := hw_Lne b107
        exfalso
        first | omega | contradiction | (subst_vars; omega)
    · refine W.lcmp hx hb dL_law_996 ?_
      refine lv_topi (fun x109 e110 => ?_)
      refine lv_if_eq (tgt := 1188) hx hb dL_law_997 (by decide) (fun c111 => ?_) (fun c111 => ?_)
      · have b112 := hw_cmpeq (e110 ▸ c111)
        have b113 : (-11) = (-13) := hw_Leq b112
        refine lv_iinc (v := 6) (lv' := [(3, .int 6), (2, .ref mo), (1, .ref x), (0, .ref b)]) hx hb dL_law_1188 hl (k := 0) rfl (by rfl) (by decide) rfl (fun ls hl => ?_)
        refine lv_goto (tgt := 18) hx hb dL_law_1191 (by decide) ?_
        refine lv_iload_n hx hb dL_law_18 rfl (lv_at hl 0 rfl) ?_
        refine lv_aload_n hx hb dL_law_19 rfl (lv_at hl 3 rfl) ?_
        refine va_slen hx hb hX hbl hbA hS dL_law_20 ?_
        refine lv_bipush (v := 6) hx hb dL_law_21 (by decide) ?_
        refine lv_isub hx hb dL_law_23 ?_
        refine lv_topi (fun x114 e115 => ?_)
        have t116 : x114.toInt = (Int32.ofNat L).toInt - 6 := by rw [e115]; exact hw_sub rfl rfl (by omega) (by omega)
        refine lv_icmp_gt (tgt := 1194) hx hb dL_law_24 (by decide) (fun c117 => ?_) (fun c117 => ?_)
        · have b118 : x114.toInt < 6 := hw_ilt c117
          refine lv_iconst (v := 1) hx hb dL_law_1194 (by decide) ?_
          have hfg := hw_hfg hG0 (by decide) hS.2.2
          refine va_forget hfg ?_
          refine W.widen (k := 600000) (n := 7302250) (by decide) (by decide) ?_
          exact lw_ret hx hb hr hlocks dL_law_1195
        · have b119 : 6 ≤ x114.toInt := hw_inlt c117
          exfalso; omega
      · have b120 := hw_cmpneq (e110 ▸ c111)
        have b121 : (-11) ≠ (-13) := hw_Lne b120
        exfalso
        first | omega | contradiction | (subst_vars; omega)
    · refine W.lcmp hx hb dL_law_996 ?_
      refine lv_topi (fun x122 e123 => ?_)
      refine lv_if_eq (tgt := 1188) hx hb dL_law_997 (by decide) (fun c124 => ?_) (fun c124 => ?_)
      · have b125 := hw_cmpeq (e123 ▸ c124)
        have b126 : (-11) = x80.toInt := hw_Leq b125
        refine lv_iinc (v := 6) (lv' := [(3, .int 6), (2, .ref mo), (1, .ref x), (0, .ref b)]) hx hb dL_law_1188 hl (k := 0) rfl (by rfl) (by decide) rfl (fun ls hl => ?_)
        refine lv_goto (tgt := 18) hx hb dL_law_1191 (by decide) ?_
        refine lv_iload_n hx hb dL_law_18 rfl (lv_at hl 0 rfl) ?_
        refine lv_aload_n hx hb dL_law_19 rfl (lv_at hl 3 rfl) ?_
        refine va_slen hx hb hX hbl hbA hS dL_law_20 ?_
        refine lv_bipush (v := 6) hx hb dL_law_21 (by decide) ?_
        refine lv_isub hx hb dL_law_23 ?_
        refine lv_topi (fun x127 e128 => ?_)
        have t129 : x127.toInt = (Int32.ofNat L).toInt - 6 := by rw [e128]; exact hw_sub rfl rfl (by omega) (by omega)
        refine lv_icmp_gt (tgt := 1194) hx hb dL_law_24 (by decide) (fun c130 => ?_) (fun c130 => ?_)
        · have b131 : x127.toInt < 6 := hw_ilt c130
          refine lv_iconst (v := 1) hx hb dL_law_1194 (by decide) ?_
          have hfg := hw_hfg hG0 (by decide) hS.2.2
          refine va_forget hfg ?_
          refine W.widen (k := 600000) (n := 7302250) (by decide) (by decide) ?_
          exact lw_ret hx hb hr hlocks dL_law_1195
        · have b132 : 6 ≤ x127.toInt := hw_inlt c130
          exfalso; omega
      · have b133 := hw_cmpneq (e123 ▸ c124)
        have b134 : (-11) ≠ x80.toInt := hw_Lne b133
        exfalso
        first | omega | contradiction | (subst_vars; omega)
  · refine lv_aload_n hx hb dL_law_982 rfl (lv_at hl 1 rfl) ?_
    refine lv_aload_n hx hb dL_law_983 rfl (lv_at hl 3 rfl) ?_
    refine lv_iload_n hx hb dL_law_984 rfl (lv_at hl 0 rfl) ?_
    refine lv_iconst (v := 1) hx hb dL_law_985 (by decide) ?_
    refine lv_iadd hx hb dL_law_986 ?_
    refine W.eq (g2 := F0 m 987 ls [.int 1, .ref b, .ref mo, .long (-13)]) rfl ?_
    refine va_sld hx hb hX hbl hbA hS (hw_in (x := 1) (by decide) (by have h9 : (1 : Int32).toInt = 1 := rfl; omega)) dL_law_987 ?_
    refine W.eq (g2 := F0 m 988 ls [.int (xs 1), .ref mo, .long (-13)]) rfl ?_
    refine lv_aload_n hx hb dL_law_988 rfl (lv_at hl 3 rfl) ?_
    refine lv_iload_n hx hb dL_law_989 rfl (lv_at hl 0 rfl) ?_
    refine lv_iconst (v := 2) hx hb dL_law_990 (by decide) ?_
    refine lv_iadd hx hb dL_law_991 ?_
    refine W.eq (g2 := F0 m 992 ls [.int 2, .ref b, .int (xs 1), .ref mo, .long (-13)]) rfl ?_
    refine va_sld hx hb hX hbl hbA hS (hw_in (x := 2) (by decide) (by have h9 : (2 : Int32).toInt = 2 := rfl; omega)) dL_law_992 ?_
    refine W.eq (g2 := F0 m 993 ls [.int (xs 2), .int (xs 1), .ref mo, .long (-13)]) rfl ?_
    refine hw_cR (va_runV (As := [.int (xs 1), .int (xs 2)]) (rest := [.long (-13)]) ⟨hx, hb, hml, hown, hts⟩ (k_X12_look l D G1 mo (xs 1) (xs 2) _ rm 0 0 0 0 60 0 0 0 0 0 0 0 0 0 fsz gm Rm ⟨by first | decide | omega, by first | decide | omega⟩ ⟨by first | decide | omega, by first | decide | omega⟩ ⟨by first | decide | omega, by first | decide | omega⟩ ⟨by first | decide | omega, by first | decide | omega⟩ ⟨by first | decide | omega, by first | decide | omega⟩ ⟨by first | decide | omega, by first | decide | omega⟩ ⟨by first | decide | omega, by first | decide | omega⟩ ⟨by first | decide | omega, by first | decide | omega⟩ ⟨by first | decide | omega, by first | decide | omega⟩ ⟨by first | decide | omega, by first | decide | omega⟩ ⟨by first | decide | omega, by first | decide | omega⟩ ⟨by first | decide | omega, by first | decide | omega⟩ qsz) (cwV 2 hts gL_law_X12_look rfl rfl rfl (by decide +kernel) ⟨Nat.le_of_ble_eq_true rfl, Nat.le_of_ble_eq_true rfl⟩) (hw_pV (hw_rc (q := (RX12, TX12, 45)) hK vm rfl) hH hK hST hS (by decide) (hw_hG hGe1) ⟨vm, vsz⟩) rfl rfl hl.1 rfl (lv_room (Nat.le_of_ble_eq_true rfl)) dL_law_993 ⟨Nat.le_of_ble_eq_true rfl, Nat.le_of_ble_eq_true rfl⟩) (fun v hp => ?_)
    have l135 : (60 : Int32).toInt = 60 := rfl
    rcases hp with ⟨rfl, q136⟩ | ⟨rfl, q137, q138⟩ | ⟨rfl, q139, q140, q141⟩ | ⟨x142, rfl, q143, q144⟩
    · refine W.lcmp hx hb dL_law_996 ?_
      refine lv_topi (fun x145 e146 => ?_)
      refine lv_if_eq (tgt := 1188) hx hb dL_law_997 (by decide) (fun c147 => ?_) (fun c147 => ?_)
      · have b148 := hw_cmpeq (e146 ▸ c147)
        have b149 : (-13) = (-2) := hw_Leq b148
        refine lv_iinc (v := 6) (lv' := [(3, .int 6), (2, .ref mo), (1, .ref x), (0, .ref b)]) hx hb dL_law_1188 hl (k := 0) rfl (by rfl) (by decide) rfl (fun ls hl => ?_)
        refine lv_goto (tgt := 18) hx hb dL_law_1191 (by decide) ?_
        refine lv_iload_n hx hb dL_law_18 rfl (lv_at hl 0 rfl) ?_
        refine lv_aload_n hx hb dL_law_19 rfl (lv_at hl 3 rfl) ?_
        refine va_slen hx hb hX hbl hbA hS dL_law_20 ?_
        refine lv_bipush (v := 6) hx hb dL_law_21 (by decide) ?_
        refine lv_isub hx hb dL_law_23 ?_
        refine lv_topi (fun x150 e151 => ?_)
        have t152 : x150.toInt = (Int32.ofNat L).toInt - 6 := by rw [e151]; exact hw_sub rfl rfl (by omega) (by omega)
        refine lv_icmp_gt (tgt := 1194) hx hb dL_law_24 (by decide) (fun c153 => ?_) (fun c153 => ?_)
        · have b154 : x150.toInt < 6 := hw_ilt c153
          refine lv_iconst (v := 1) hx hb dL_law_1194 (by decide) ?_
          have hfg := hw_hfg hG0 (by decide) hS.2.2
          refine va_forget hfg ?_
          refine W.widen (k := 600000) (n := 7302250) (by decide) (by decide) ?_
          exact lw_ret hx hb hr hlocks dL_law_1195
        · have b155 : 6 ≤ x150.toInt := hw_inlt c153
          exfalso; omega
      · have b156 := hw_cmpneq (e146 ▸ c147)
        have b157 : (-13) ≠ (-2) := hw_Lne b156
        exfalso
        first | omega | contradiction | (subst_vars; omega)
    · refine W.lcmp hx hb dL_law_996 ?_
      refine lv_topi (fun x158 e159 => ?_)
      refine lv_if_eq (tgt := 1188) hx hb dL_law_997 (by decide) (fun c160 => ?_) (fun c160 => ?_)
      · have b161 := hw_cmpeq (e159 ▸ c160)
        have b162 : (-13) = (-11) := hw_Leq b161
        refine lv_iinc (v := 6) (lv' := [(3, .int 6), (2, .ref mo), (1, .ref x), (0, .ref b)]) hx hb dL_law_1188 hl (k := 0) rfl (by rfl) (by decide) rfl (fun ls hl => ?_)
        refine lv_goto (tgt := 18) hx hb dL_law_1191 (by decide) ?_
        refine lv_iload_n hx hb dL_law_18 rfl (lv_at hl 0 rfl) ?_
        refine lv_aload_n hx hb dL_law_19 rfl (lv_at hl 3 rfl) ?_
        refine va_slen hx hb hX hbl hbA hS dL_law_20 ?_
        refine lv_bipush (v := 6) hx hb dL_law_21 (by decide) ?_
        refine lv_isub hx hb dL_law_23 ?_
        refine lv_topi (fun x163 e164 => ?_)
        have t165 : x163.toInt = (Int32.ofNat L).toInt - 6 := by rw [e164]; exact hw_sub rfl rfl (by omega) (by omega)
        refine lv_icmp_gt (tgt := 1194) hx hb dL_law_24 (by decide) (fun c166 => ?_) (fun c166 => ?_)
        · have b167 : x163.toInt < 6 := hw_ilt c166
          refine lv_iconst (v := 1) hx hb dL_law_1194 (by decide) ?_
          have hfg := hw_hfg hG0 (by decide) hS.2.2
          refine va_forget hfg ?_
          refine W.widen (k := 600000) (n := 7302250) (by decide) (by decide) ?_
          exact lw_ret hx hb hr hlocks dL_law_1195
        · have b168 : 6 ≤ x163.toInt := hw_inlt c166
          exfalso; omega
      · have b169 := hw_cmpneq (e159 ▸ c160)
        have b170 : (-13) ≠ (-11) := hw_Lne b169
        exfalso
        first | omega | contradiction | (subst_vars; omega)
    · refine W.lcmp hx hb dL_law_996 ?_
      refine lv_topi (fun x171 e172 => ?_)
      refine lv_if_eq (tgt := 1188) hx hb dL_law_997 (by decide) (fun c173 => ?_) (fun c173 => ?_)
      · have b174 := hw_cmpeq (e172 ▸ c173)
        have b175 : (-13) = (-13) := hw_Leq b174
        refine lv_iinc (v := 6) (lv' := [(3, .int 6), (2, .ref mo), (1, .ref x), (0, .ref b)]) hx hb dL_law_1188 hl (k := 0) rfl (by rfl) (by decide) rfl (fun ls hl => ?_)
        refine lv_goto (tgt := 18) hx hb dL_law_1191 (by decide) ?_
        refine lv_iload_n hx hb dL_law_18 rfl (lv_at hl 0 rfl) ?_
        refine lv_aload_n hx hb dL_law_19 rfl (lv_at hl 3 rfl) ?_
        refine va_slen hx hb hX hbl hbA hS dL_law_20 ?_
        refine lv_bipush (v := 6) hx hb dL_law_21 (by decide) ?_
        refine lv_isub hx hb dL_law_23 ?_
        refine lv_topi (fun x176 e177 => ?_)
        have t178 : x176.toInt = (Int32.ofNat L).toInt - 6 := by rw [e177]; exact hw_sub rfl rfl (by omega) (by omega)
        refine lv_icmp_gt (tgt := 1194) hx hb dL_law_24 (by decide) (fun c179 => ?_) (fun c179 => ?_)
        · have b180 : x176.toInt < 6 := hw_ilt c179
          refine lv_iconst (v := 1) hx hb dL_law_1194 (by decide) ?_
          have hfg := hw_hfg hG0 (by decide) hS.2.2
          refine va_forget hfg ?_
          refine W.widen (k := 600000) (n := 7302250) (by decide) (by decide) ?_
          exact lw_ret hx hb hr hlocks dL_law_1195
        · have b181 : 6 ≤ x176.toInt := hw_inlt c179
          exfalso; omega
      · have b182 := hw_cmpneq (e172 ▸ c173)
        have b183 : (-13) ≠ (-13) := hw_Lne b182
        exfalso
        first | omega | contradiction | (subst_vars; omega)
    · refine W.lcmp hx hb dL_law_996 ?_
      refine lv_topi (fun x184 e185 => ?_)
      refine lv_if_eq (tgt := 1188) hx hb dL_law_997 (by decide) (fun c186 => ?_) (fun c186 => ?_)
      · have b187 := hw_cmpeq (e185 ▸ c186)
        have b188 : (-13) = x142.toInt := hw_Leq b187
        refine lv_iinc (v := 6) (lv' := [(3, .int 6), (2, .ref mo), (1, .ref x), (0, .ref b)]) hx hb dL_law_1188 hl (k := 0) rfl (by rfl) (by decide) rfl (fun ls hl => ?_)
        refine lv_goto (tgt := 18) hx hb dL_law_1191 (by decide) ?_
        refine lv_iload_n hx hb dL_law_18 rfl (lv_at hl 0 rfl) ?_
        refine lv_aload_n hx hb dL_law_19 rfl (lv_at hl 3 rfl) ?_
        refine va_slen hx hb hX hbl hbA hS dL_law_20 ?_
        refine lv_bipush (v := 6) hx hb dL_law_21 (by decide) ?_
        refine lv_isub hx hb dL_law_23 ?_
        refine lv_topi (fun x189 e190 => ?_)
        have t191 : x189.toInt = (Int32.ofNat L).toInt - 6 := by rw [e190]; exact hw_sub rfl rfl (by omega) (by omega)
        refine lv_icmp_gt (tgt := 1194) hx hb dL_law_24 (by decide) (fun c192 => ?_) (fun c192 => ?_)
        · have b193 : x189.toInt < 6 := hw_ilt c192
          refine lv_iconst (v := 1) hx hb dL_law_1194 (by decide) ?_
          have hfg := hw_hfg hG0 (by decide) hS.2.2
          refine va_forget hfg ?_
          refine W.widen (k := 600000) (n := 7302250) (by decide) (by decide) ?_
          exact lw_ret hx hb hr hlocks dL_law_1195
        · have b194 : 6 ≤ x189.toInt := hw_inlt c192
          exfalso; omega
      · have b195 := hw_cmpneq (e185 ▸ c186)
        have b196 : (-13) ≠ x142.toInt := hw_Lne b195
        exfalso
        first | omega | contradiction | (subst_vars; omega)
  · refine lv_aload_n hx hb dL_law_982 rfl (lv_at hl 1 rfl) ?_
    refine lv_aload_n hx hb dL_law_983 rfl (lv_at hl 3 rfl) ?_
    refine lv_iload_n hx hb dL_law_984 rfl (lv_at hl 0 rfl) ?_
    refine lv_iconst (v := 1) hx hb dL_law_985 (by decide) ?_
    refine lv_iadd hx hb dL_law_986 ?_
    refine W.eq (g2 := F0 m 987 ls [.int 1, .ref b, .ref mo, .long x8]) rfl ?_
    refine va_sld hx hb hX hbl hbA hS (hw_in (x := 1) (by decide) (by have h9 : (1 : Int32).toInt = 1 := rfl; omega)) dL_law_987 ?_
    refine W.eq (g2 := F0 m 988 ls [.int (xs 1), .ref mo, .long x8]) rfl ?_
    refine lv_aload_n hx hb dL_law_988 rfl (lv_at hl 3 rfl) ?_
    refine lv_iload_n hx hb dL_law_989 rfl (lv_at hl 0 rfl) ?_
    refine lv_iconst (v := 2) hx hb dL_law_990 (by decide) ?_
    refine lv_iadd hx hb dL_law_991 ?_
    refine W.eq (g2 := F0 m 992 ls [.int 2, .ref b, .int (xs 1), .ref mo, .long x8]) rfl ?_
    refine va_sld hx hb hX hbl hbA hS (hw_in (x := 2) (by decide) (by have h9 : (2 : Int32).toInt = 2 := rfl; omega)) dL_law_992 ?_
    refine W.eq (g2 := F0 m 993 ls [.int (xs 2), .int (xs 1), .ref mo, .long x8]) rfl ?_
    refine hw_cR (va_runV (As := [.int (xs 1), .int (xs 2)]) (rest := [.long x8]) ⟨hx, hb, hml, hown, hts⟩ (k_X12_look l D G1 mo (xs 1) (xs 2) _ rm 0 0 0 0 60 0 0 0 0 0 0 0 0 0 fsz gm Rm ⟨by first | decide | omega, by first | decide | omega⟩ ⟨by first | decide | omega, by first | decide | omega⟩ ⟨by first | decide | omega, by first | decide | omega⟩ ⟨by first | decide | omega, by first | decide | omega⟩ ⟨by first | decide | omega, by first | decide | omega⟩ ⟨by first | decide | omega, by first | decide | omega⟩ ⟨by first | decide | omega, by first | decide | omega⟩ ⟨by first | decide | omega, by first | decide | omega⟩ ⟨by first | decide | omega, by first | decide | omega⟩ ⟨by first | decide | omega, by first | decide | omega⟩ ⟨by first | decide | omega, by first | decide | omega⟩ ⟨by first | decide | omega, by first | decide | omega⟩ qsz) (cwV 2 hts gL_law_X12_look rfl rfl rfl (by decide +kernel) ⟨Nat.le_of_ble_eq_true rfl, Nat.le_of_ble_eq_true rfl⟩) (hw_pV (hw_rc (q := (RX12, TX12, 45)) hK vm rfl) hH hK hST hS (by decide) (hw_hG hGe1) ⟨vm, vsz⟩) rfl rfl hl.1 rfl (lv_room (Nat.le_of_ble_eq_true rfl)) dL_law_993 ⟨Nat.le_of_ble_eq_true rfl, Nat.le_of_ble_eq_true rfl⟩) (fun v hp => ?_)
    have l197 : (60 : Int32).toInt = 60 := rfl
    rcases hp with ⟨rfl, q198⟩ | ⟨rfl, q199, q200⟩ | ⟨rfl, q201, q202, q203⟩ | ⟨x204, rfl, q205, q206⟩
    · refine W.lcmp hx hb dL_law_996 ?_
      refine lv_topi (fun x207 e208 => ?_)
      refine lv_if_eq (tgt := 1188) hx hb dL_law_997 (by decide) (fun c209 => ?_) (fun c209 => ?_)
      · have b210 := hw_cmpeq (e208 ▸ c209)
        have b211 : x8.toInt = (-2) := hw_Leq b210
        refine lv_iinc (v := 6) (lv' := [(3, .int 6), (2, .ref mo), (1, .ref x), (0, .ref b)]) hx hb dL_law_1188 hl (k := 0) rfl (by rfl) (by decide) rfl (fun ls hl => ?_)
        refine lv_goto (tgt := 18) hx hb dL_law_1191 (by decide) ?_
        refine lv_iload_n hx hb dL_law_18 rfl (lv_at hl 0 rfl) ?_
        refine lv_aload_n hx hb dL_law_19 rfl (lv_at hl 3 rfl) ?_
        refine va_slen hx hb hX hbl hbA hS dL_law_20 ?_
        refine lv_bipush (v := 6) hx hb dL_law_21 (by decide) ?_
        refine lv_isub hx hb dL_law_23 ?_
        refine lv_topi (fun x212 e213 => ?_)
        have t214 : x212.toInt = (Int32.ofNat L).toInt - 6 := by rw [e213]; exact hw_sub rfl rfl (by omega) (by omega)
        refine lv_icmp_gt (tgt := 1194) hx hb dL_law_24 (by decide) (fun c215 => ?_) (fun c215 => ?_)
        · have b216 : x212.toInt < 6 := hw_ilt c215
          refine lv_iconst (v := 1) hx hb dL_law_1194 (by decide) ?_
          have hfg := hw_hfg hG0 (by decide) hS.2.2
          refine va_forget hfg ?_
          refine W.widen (k := 600000) (n := 7302250) (by decide) (by decide) ?_
          exact lw_ret hx hb hr hlocks dL_law_1195
        · have b217 : 6 ≤ x212.toInt := hw_inlt c215
          exfalso; omega
      · have b218 := hw_cmpneq (e208 ▸ c209)
        have b219 : x8.toInt ≠ (-2) := hw_Lne b218
        exfalso
        first | omega | contradiction | (subst_vars; omega)
    · refine W.lcmp hx hb dL_law_996 ?_
      refine lv_topi (fun x220 e221 => ?_)
      refine lv_if_eq (tgt := 1188) hx hb dL_law_997 (by decide) (fun c222 => ?_) (fun c222 => ?_)
      · have b223 := hw_cmpeq (e221 ▸ c222)
        have b224 : x8.toInt = (-11) := hw_Leq b223
        refine lv_iinc (v := 6) (lv' := [(3, .int 6), (2, .ref mo), (1, .ref x), (0, .ref b)]) hx hb dL_law_1188 hl (k := 0) rfl (by rfl) (by decide) rfl (fun ls hl => ?_)
        refine lv_goto (tgt := 18) hx hb dL_law_1191 (by decide) ?_
        refine lv_iload_n hx hb dL_law_18 rfl (lv_at hl 0 rfl) ?_
        refine lv_aload_n hx hb dL_law_19 rfl (lv_at hl 3 rfl) ?_
        refine va_slen hx hb hX hbl hbA hS dL_law_20 ?_
        refine lv_bipush (v := 6) hx hb dL_law_21 (by decide) ?_
        refine lv_isub hx hb dL_law_23 ?_
        refine lv_topi (fun x225 e226 => ?_)
        have t227 : x225.toInt = (Int32.ofNat L).toInt - 6 := by rw [e226]; exact hw_sub rfl rfl (by omega) (by omega)
        refine lv_icmp_gt (tgt := 1194) hx hb dL_law_24 (by decide) (fun c228 => ?_) (fun c228 => ?_)
        · have b229 : x225.toInt < 6 := hw_ilt c228
          refine lv_iconst (v := 1) hx hb dL_law_1194 (by decide) ?_
          have hfg := hw_hfg hG0 (by decide) hS.2.2
          refine va_forget hfg ?_
          refine W.widen (k := 600000) (n := 7302250) (by decide) (by decide) ?_
          exact lw_ret hx hb hr hlocks dL_law_1195
        · have b230 : 6 ≤ x225.toInt := hw_inlt c228
          exfalso; omega
      · have b231 := hw_cmpneq (e221 ▸ c222)
        have b232 : x8.toInt ≠ (-11) := hw_Lne b231
        exfalso
        first | omega | contradiction | (subst_vars; omega)
    · refine W.lcmp hx hb dL_law_996 ?_
      refine lv_topi (fun x233 e234 => ?_)
      refine lv_if_eq (tgt := 1188) hx hb dL_law_997 (by decide) (fun c235 => ?_) (fun c235 => ?_)
      · have b236 := hw_cmpeq (e234 ▸ c235)
        have b237 : x8.toInt = (-13) := hw_Leq b236
        refine lv_iinc (v := 6) (lv' := [(3, .int 6), (2, .ref mo), (1, .ref x), (0, .ref b)]) hx hb dL_law_1188 hl (k := 0) rfl (by rfl) (by decide) rfl (fun ls hl => ?_)
        refine lv_goto (tgt := 18) hx hb dL_law_1191 (by decide) ?_
        refine lv_iload_n hx hb dL_law_18 rfl (lv_at hl 0 rfl) ?_
        refine lv_aload_n hx hb dL_law_19 rfl (lv_at hl 3 rfl) ?_
        refine va_slen hx hb hX hbl hbA hS dL_law_20 ?_
        refine lv_bipush (v := 6) hx hb dL_law_21 (by decide) ?_
        refine lv_isub hx hb dL_law_23 ?_
        refine lv_topi (fun x238 e239 => ?_)
        have t240 : x238.toInt = (Int32.ofNat L).toInt - 6 := by rw [e239]; exact hw_sub rfl rfl (by omega) (by omega)
        refine lv_icmp_gt (tgt := 1194) hx hb dL_law_24 (by decide) (fun c241 => ?_) (fun c241 => ?_)
        · have b242 : x238.toInt < 6 := hw_ilt c241
          refine lv_iconst (v := 1) hx hb dL_law_1194 (by decide) ?_
          have hfg := hw_hfg hG0 (by decide) hS.2.2
          refine va_forget hfg ?_
          refine W.widen (k := 600000) (n := 7302250) (by decide) (by decide) ?_
          exact lw_ret hx hb hr hlocks dL_law_1195
        · have b243 : 6 ≤ x238.toInt := hw_inlt c241
          exfalso; omega
      · have b244 := hw_cmpneq (e234 ▸ c235)
        have b245 : x8.toInt ≠ (-13) := hw_Lne b244
        exfalso
        first | omega | contradiction | (subst_vars; omega)
    · refine W.lcmp hx hb dL_law_996 ?_
      refine lv_topi (fun x246 e247 => ?_)
      refine lv_if_eq (tgt := 1188) hx hb dL_law_997 (by decide) (fun c248 => ?_) (fun c248 => ?_)
      · have b249 := hw_cmpeq (e247 ▸ c248)
        have b250 : x8.toInt = x204.toInt := hw_Leq b249
        refine lv_iinc (v := 6) (lv' := [(3, .int 6), (2, .ref mo), (1, .ref x), (0, .ref b)]) hx hb dL_law_1188 hl (k := 0) rfl (by rfl) (by decide) rfl (fun ls hl => ?_)
        refine lv_goto (tgt := 18) hx hb dL_law_1191 (by decide) ?_
        refine lv_iload_n hx hb dL_law_18 rfl (lv_at hl 0 rfl) ?_
        refine lv_aload_n hx hb dL_law_19 rfl (lv_at hl 3 rfl) ?_
        refine va_slen hx hb hX hbl hbA hS dL_law_20 ?_
        refine lv_bipush (v := 6) hx hb dL_law_21 (by decide) ?_
        refine lv_isub hx hb dL_law_23 ?_
        refine lv_topi (fun x251 e252 => ?_)
        have t253 : x251.toInt = (Int32.ofNat L).toInt - 6 := by rw [e252]; exact hw_sub rfl rfl (by omega) (by omega)
        refine lv_icmp_gt (tgt := 1194) hx hb dL_law_24 (by decide) (fun c254 => ?_) (fun c254 => ?_)
        · have b255 : x251.toInt < 6 := hw_ilt c254
          refine lv_iconst (v := 1) hx hb dL_law_1194 (by decide) ?_
          have hfg := hw_hfg hG0 (by decide) hS.2.2
          refine va_forget hfg ?_
          refine W.widen (k := 600000) (n := 7302250) (by decide) (by decide) ?_
          exact lw_ret hx hb hr hlocks dL_law_1195
        · have b256 : 6 ≤ x251.toInt := hw_inlt c254
          exfalso; omega
      · have b257 := hw_cmpneq (e247 ▸ c248)
        have b258 : x8.toInt ≠ x204.toInt := hw_Lne b257
        exfalso
        first | omega | contradiction | (subst_vars; omega)

set_option maxHeartbeats 40000000 in
set_option maxRecDepth 100000 in
theorem hw_case1002 {p : Program} {e : Env} {s : State} {m : MethodId} {below : List Frame} {meth : Method} {c : Code} (l : Launch) {b L : Nat} {xs : Nat → Int32} {D : hw_D} {G : Nat → Nat} {H : Heap} {locs : List Loc} {x mo : Nat} {ls : Array Slot} (hL : L ≤ 6) (hL6 : 6 ≤ L) (hx : p.tables.exec = Jvm.exec) (hb : c.code = code) (hr : meth.sig.returnType = ret) (hml : c.maxLocals = 4) (hown : s.vm.findClass R_law = some m.cls) (hts0 : ∀ w ∈ lw_tbl, w.before #[Value.ref b] s = true) (hts : ∀ w ∈ wsL_law, w.before #[Value.ref b] s = true) (hX : va_X b L xs s s.heap) (hbl : b < s.heap.size) (hlocks : meth.locks = false) (hG0 : G = fun _ => 0) (hK : va_K D.1 vwCl (hw_ty D.2.1) s) (hST : hw_ST D.2.2 G s.heap.size s) (hF : hw_F0 D G s H x mo) (hS : va_S (hw_AW G [1, 2, 3, 4, 5, 6, 7, 8, 9, 10, 11, 12, 13, 14, 15, 16, 17, 18, 19, 20, 21, 22, 23, 24, 25, 26, 27, 28, 29, 30, 31, 32, 40, 42, 44, 45, 46, 48, 49, 50, 51, 53, 55, 58, 59, 67, 68, 69, 70, 71, 72, 73, 74, 75, 76, 77, 78, 79, 80, 81, 82, 83, 84, 101, 102, 103, 104, 105, 106, 107, 108, 109, 127, 128, 129, 132] s.heap.size) s.heap H locs) (hl : lv_has ls 4 [(3, .int 0), (2, .ref mo), (1, .ref x), (0, .ref b)]) : W p l e room_1 s m #[Value.ref b] below meth c H locs 200 8000 (lw_Z below #[Value.ref b] s) (F0 m 1002 ls []) := by
  have hH0 : hw_HT D G s.heap := fun a h => absurd (by rw [hG0]) h
  have hbA : ¬ (hw_AW G [1, 2, 3, 4, 5, 6, 7, 8, 9, 10, 11, 12, 13, 14, 15, 16, 17, 18, 19, 20, 21, 22, 23, 24, 25, 26, 27, 28, 29, 30, 31, 32, 40, 42, 44, 45, 46, 48, 49, 50, 51, 53, 55, 58, 59, 67, 68, 69, 70, 71, 72, 73, 74, 75, 76, 77, 78, 79, 80, 81, 82, 83, 84, 101, 102, 103, 104, 105, 106, 107, 108, 109, 127, 128, 129, 132] s.heap.size) b := hw_AWn (k := 0) (by rw [hG0]) (by decide) hbl
  have hLi : (Int32.ofNat L).toInt = (L : Int) := nI_toInt (by omega)
  obtain ⟨G1, rx, rc, rt, rn, fq, rm, fro, fik, fla, fsz, hH, hGe1, wx, wm, gx, gm, Rx, vx, Rc, vc, Rt, vt, Rn, vn, vq, hRK, Rm, vm, vro, hro, vik, hik, vla, vsz, hfs⟩ := hF
  have hHs := hH0
  obtain ⟨la, hla⟩ : ∃ z : Nat → Int32, z = fun _ => -1 := ⟨_, rfl⟩
  obtain ⟨sz9, hsz9⟩ : ∃ z : Nat → Int32, z = fun _ => 0 := ⟨_, rfl⟩
  rw [← hla, ← hsz9] at hRK
  have qq := hRK.q
  have qsz : ∀ j, j < 4 → -1 ≤ (fsz j).toInt ∧ (fsz j).toInt ≤ 24 := fun j hj => by rw [hfs j hj]; decide
  have hro0 : (fro 0).toInt = 0 := by rw [hro]; rfl
  have hro1 : (fro 1).toInt = 0 := by rw [hro]; rfl
  have hro2 : (fro 2).toInt = 0 := by rw [hro]; rfl
  have hla1 : (la (xs 1).toNatClampNeg).toInt = -1 := by rw [hla]; rfl
  have hfs1 : 0 ≤ (xs 1).toInt ∧ (xs 1).toInt ≤ 3 → (fsz (xs 1).toNatClampNeg).toInt = -1 := fun h9 => by rw [hfs _ (hw_i4 h9)]; rfl
  have hla2 : (la (xs 2).toNatClampNeg).toInt = -1 := by rw [hla]; rfl
  have hfs2 : 0 ≤ (xs 2).toInt ∧ (xs 2).toInt ≤ 3 → (fsz (xs 2).toNatClampNeg).toInt = -1 := fun h9 => by rw [hfs _ (hw_i4 h9)]; rfl
  have hla3 : (la (xs 3).toNatClampNeg).toInt = -1 := by rw [hla]; rfl
  have hfs3 : 0 ≤ (xs 3).toInt ∧ (xs 3).toInt ≤ 3 → (fsz (xs 3).toNatClampNeg).toInt = -1 := fun h9 => by rw [hfs _ (hw_i4 h9)]; rfl
  have hik1 : (fik (xs 1).toNatClampNeg).toInt = 0 := by rw [hik]; rfl
  refine lv_aload_n hx hb dL_law_1002 rfl (lv_at hl 2 rfl) ?_
  refine lv_aload_n hx hb dL_law_1003 rfl (lv_at hl 3 rfl) ?_
  refine lv_iload_n hx hb dL_law_1004 rfl (lv_at hl 0 rfl) ?_
  refine lv_iconst (v := 1) hx hb dL_law_1005 (by decide) ?_
  refine lv_iadd hx hb dL_law_1006 ?_
  refine W.eq (g2 := F0 m 1007 ls [.int 1, .ref b, .ref x]) rfl ?_
  refine va_sld hx hb hX hbl hbA hS (hw_in (x := 1) (by decide) (by have h9 : (1 : Int32).toInt = 1 := rfl; omega)) dL_law_1007 ?_
  refine W.eq (g2 := F0 m 1008 ls [.int (xs 1), .ref x]) rfl ?_
  refine lv_aload_n hx hb dL_law_1008 rfl (lv_at hl 3 rfl) ?_
  refine lv_iload_n hx hb dL_law_1009 rfl (lv_at hl 0 rfl) ?_
  refine lv_iconst (v := 2) hx hb dL_law_1010 (by decide) ?_
  refine lv_iadd hx hb dL_law_1011 ?_
  refine W.eq (g2 := F0 m 1012 ls [.int 2, .ref b, .int (xs 1), .ref x]) rfl ?_
  refine va_sld hx hb hX hbl hbA hS (hw_in (x := 2) (by decide) (by have h9 : (2 : Int32).toInt = 2 := rfl; omega)) dL_law_1012 ?_
  refine W.eq (g2 := F0 m 1013 ls [.int (xs 2), .int (xs 1), .ref x]) rfl ?_
  refine lv_aload_n hx hb dL_law_1013 rfl (lv_at hl 3 rfl) ?_
  refine lv_iload_n hx hb dL_law_1014 rfl (lv_at hl 0 rfl) ?_
  refine lv_iconst (v := 3) hx hb dL_law_1015 (by decide) ?_
  refine lv_iadd hx hb dL_law_1016 ?_
  refine W.eq (g2 := F0 m 1017 ls [.int 3, .ref b, .int (xs 2), .int (xs 1), .ref x]) rfl ?_
  refine va_sld hx hb hX hbl hbA hS (hw_in (x := 3) (by decide) (by have h9 : (3 : Int32).toInt = 3 := rfl; omega)) dL_law_1017 ?_
  refine W.eq (g2 := F0 m 1018 ls [.int (xs 3), .int (xs 2), .int (xs 1), .ref x]) rfl ?_
  refine lv_aload_n hx hb dL_law_1018 rfl (lv_at hl 3 rfl) ?_
  refine lv_iload_n hx hb dL_law_1019 rfl (lv_at hl 0 rfl) ?_
  refine lv_iconst (v := 4) hx hb dL_law_1020 (by decide) ?_
  refine lv_iadd hx hb dL_law_1021 ?_
  refine W.eq (g2 := F0 m 1022 ls [.int 4, .ref b, .int (xs 3), .int (xs 2), .int (xs 1), .ref x]) rfl ?_
  refine va_sld hx hb hX hbl hbA hS (hw_in (x := 4) (by decide) (by have h9 : (4 : Int32).toInt = 4 := rfl; omega)) dL_law_1022 ?_
  refine W.eq (g2 := F0 m 1023 ls [.int (xs 4), .int (xs 3), .int (xs 2), .int (xs 1), .ref x]) rfl ?_
  refine lv_aload_n hx hb dL_law_1023 rfl (lv_at hl 3 rfl) ?_
  refine lv_iload_n hx hb dL_law_1024 rfl (lv_at hl 0 rfl) ?_
  refine lv_iconst (v := 5) hx hb dL_law_1025 (by decide) ?_
  refine lv_iadd hx hb dL_law_1026 ?_
  refine W.eq (g2 := F0 m 1027 ls [.int 5, .ref b, .int (xs 4), .int (xs 3), .int (xs 2), .int (xs 1), .ref x]) rfl ?_
  refine va_sld hx hb hX hbl hbA hS (hw_in (x := 5) (by decide) (by have h9 : (5 : Int32).toInt = 5 := rfl; omega)) dL_law_1027 ?_
  refine W.eq (g2 := F0 m 1028 ls [.int (xs 5), .int (xs 4), .int (xs 3), .int (xs 2), .int (xs 1), .ref x]) rfl ?_
  refine hw_cM0 (va_runV (As := [.int (xs 1), .int (xs 2), .int (xs 3), .int (xs 4), .int (xs 5)]) (rest := []) ⟨hx, hb, hml, hown, hts⟩ (k_X11_copy l D G1 x (xs 1) (xs 2) (xs 3) (xs 4) (xs 5) _ la sz9 rx 0 0 0 0 fq gx Rx ⟨by first | decide | omega, by first | decide | omega⟩ qq) (cwV 5 hts gL_law_X11_copy rfl rfl rfl (by decide +kernel) ⟨Nat.le_of_ble_eq_true rfl, Nat.le_of_ble_eq_true rfl⟩) (hw_pV (hw_rc (q := (RX11, TX11, 14)) hK vx rfl) hH hK hST hS (by decide) (hw_hG hGe1) ⟨vx, vq, hRK⟩) rfl rfl hl.1 rfl (lv_room (Nat.le_of_ble_eq_true rfl)) dL_law_1028 ⟨Nat.le_of_ble_eq_true rfl, Nat.le_of_ble_eq_true rfl⟩) hS (hw_AWsub (by decide) hGe1 hS.1) (fun v H locs hp hz hk hS => ?_)
  have l1 : (0 : Int32).toInt = 0 := rfl
  rcases hp with ⟨rfl, hH, hRK, v2, v3, q4⟩ | ⟨rfl, hH, hRK, v5, v6, q7, q8, q9⟩ | ⟨rfl, hH, hRK, v10, v11, q12, q13, q14, q15, q16⟩ | ⟨rfl, hH, hRK, v17, v18, q19, q20, q21, q22, q23, q24⟩ | ⟨x25, rfl, hH, hRK, v26, v27, q28, q29, q30, q31, q32, q33, q34⟩
  · have vc := va_at.kept vc (hk _ (hw_lt vc) (hw_AWn (hw_RX_0 Rx) (by decide) (hw_lt vc)))
    have vt := va_at.kept vt (hk _ (hw_lt vt) (hw_AWn (hw_RX_1 Rx) (by decide) (hw_lt vt)))
    have vn := va_at.kept vn (hk _ (hw_lt vn) (hw_AWn (hw_RX_2 Rx) (by decide) (hw_lt vn)))
    have vm := va_at.kept vm (hk _ (hw_lt vm) (hw_AWn gm (by decide) (hw_lt vm)))
    have vro := va_at.kept vro (hk _ (hw_lt vro) (hw_AWn (hw_RM_0 Rm) (by decide) (hw_lt vro)))
    have vik := va_at.kept vik (hk _ (hw_lt vik) (hw_AWn (hw_RM_2 Rm) (by decide) (hw_lt vik)))
    have vla := va_at.kept vla (hk _ (hw_lt vla) (hw_AWn (hw_RM_41 Rm) (by decide) (hw_lt vla)))
    have vsz := va_at.kept vsz (hk _ (hw_lt vsz) (hw_AWn (hw_RM_42 Rm) (by decide) (hw_lt vsz)))
    refine lv_aload_n hx hb dL_law_1031 rfl (lv_at hl 1 rfl) ?_
    refine lv_aload_n hx hb dL_law_1032 rfl (lv_at hl 3 rfl) ?_
    refine lv_iload_n hx hb dL_law_1033 rfl (lv_at hl 0 rfl) ?_
    refine lv_iconst (v := 1) hx hb dL_law_1034 (by decide) ?_
    refine lv_iadd hx hb dL_law_1035 ?_
    refine W.eq (g2 := F0 m 1036 ls [.int 1, .ref b, .ref mo, .int (-2)]) rfl ?_
    refine va_sld hx hb hX hbl hbA hS (hw_in (x := 1) (by decide) (by have h9 : (1 : Int32).toInt = 1 := rfl; omega)) dL_law_1036 ?_
    refine W.eq (g2 := F0 m 1037 ls [.int (xs 1), .ref mo, .int (-2)]) rfl ?_
    refine lv_aload_n hx hb dL_law_1037 rfl (lv_at hl 3 rfl) ?_
    refine lv_iload_n hx hb dL_law_1038 rfl (lv_at hl 0 rfl) ?_
    refine lv_iconst (v := 2) hx hb dL_law_1039 (by decide) ?_
    refine lv_iadd hx hb dL_law_1040 ?_
    refine W.eq (g2 := F0 m 1041 ls [.int 2, .ref b, .int (xs 1), .ref mo, .int (-2)]) rfl ?_
    refine va_sld hx hb hX hbl hbA hS (hw_in (x := 2) (by decide) (by have h9 : (2 : Int32).toInt = 2 := rfl; omega)) dL_law_1041 ?_
    refine W.eq (g2 := F0 m 1042 ls [.int (xs 2), .int (xs 1), .ref mo, .int (-2)]) rfl ?_
    refine lv_aload_n hx hb dL_law_1042 rfl (lv_at hl 3 rfl) ?_
    refine lv_iload_n hx hb dL_law_1043 rfl (lv_at hl 0 rfl) ?_
    refine lv_iconst (v := 3) hx hb dL_law_1044 (by decide) ?_
    refine lv_iadd hx hb dL_law_1045 ?_
    refine W.eq (g2 := F0 m 1046 ls [.int 3, .ref b, .int (xs 2), .int (xs 1), .ref mo, .int (-2)]) rfl ?_
    refine va_sld hx hb hX hbl hbA hS (hw_in (x := 3) (by decide) (by have h9 : (3 : Int32).toInt = 3 := rfl; omega)) dL_law_1046 ?_
    refine W.eq (g2 := F0 m 1047 ls [.int (xs 3), .int (xs 2), .int (xs 1), .ref mo, .int (-2)]) rfl ?_
    refine lv_aload_n hx hb dL_law_1047 rfl (lv_at hl 3 rfl) ?_
    refine lv_iload_n hx hb dL_law_1048 rfl (lv_at hl 0 rfl) ?_
    refine lv_iconst (v := 4) hx hb dL_law_1049 (by decide) ?_
    refine lv_iadd hx hb dL_law_1050 ?_
    refine W.eq (g2 := F0 m 1051 ls [.int 4, .ref b, .int (xs 3), .int (xs 2), .int (xs 1), .ref mo, .int (-2)]) rfl ?_
    refine va_sld hx hb hX hbl hbA hS (hw_in (x := 4) (by decide) (by have h9 : (4 : Int32).toInt = 4 := rfl; omega)) dL_law_1051 ?_
    refine W.eq (g2 := F0 m 1052 ls [.int (xs 4), .int (xs 3), .int (xs 2), .int (xs 1), .ref mo, .int (-2)]) rfl ?_
    refine lv_aload_n hx hb dL_law_1052 rfl (lv_at hl 3 rfl) ?_
    refine lv_iload_n hx hb dL_law_1053 rfl (lv_at hl 0 rfl) ?_
    refine lv_iconst (v := 5) hx hb dL_law_1054 (by decide) ?_
    refine lv_iadd hx hb dL_law_1055 ?_
    refine W.eq (g2 := F0 m 1056 ls [.int 5, .ref b, .int (xs 4), .int (xs 3), .int (xs 2), .int (xs 1), .ref mo, .int (-2)]) rfl ?_
    refine va_sld hx hb hX hbl hbA hS (hw_in (x := 5) (by decide) (by have h9 : (5 : Int32).toInt = 5 := rfl; omega)) dL_law_1056 ?_
    refine W.eq (g2 := F0 m 1057 ls [.int (xs 5), .int (xs 4), .int (xs 3), .int (xs 2), .int (xs 1), .ref mo, .int (-2)]) rfl ?_
    refine hw_cM0 (va_runV (As := [.int (xs 1), .int (xs 2), .int (xs 3), .int (xs 4), .int (xs 5)]) (rest := [.int (-2)]) ⟨hx, hb, hml, hown, hts⟩ (k_X12_copy l D G1 mo (xs 1) (xs 2) (xs 3) (xs 4) (xs 5) _ rm 0 0 0 0 60 0 0 0 0 0 0 0 0 0 fla fsz gm Rm ⟨by first | decide | omega, by first | decide | omega⟩ ⟨by first | decide | omega, by first | decide | omega⟩ ⟨by first | decide | omega, by first | decide | omega⟩ ⟨by first | decide | omega, by first | decide | omega⟩ ⟨by first | decide | omega, by first | decide | omega⟩ ⟨by first | decide | omega, by first | decide | omega⟩ ⟨by first | decide | omega, by first | decide | omega⟩ ⟨by first | decide | omega, by first | decide | omega⟩ ⟨by first | decide | omega, by first | decide | omega⟩ ⟨by first | decide | omega, by first | decide | omega⟩ ⟨by first | decide | omega, by first | decide | omega⟩ ⟨by first | decide | omega, by first | decide | omega⟩ qsz) (cwV 5 hts gL_law_X12_copy rfl rfl rfl (by decide +kernel) ⟨Nat.le_of_ble_eq_true rfl, Nat.le_of_ble_eq_true rfl⟩) (hw_pV (hw_rc (q := (RX12, TX12, 45)) hK vm rfl) hH hK hST hS (by decide) (hw_hG hGe1) ⟨vm, vla, vsz⟩) rfl rfl hl.1 rfl (lv_room (Nat.le_of_ble_eq_true rfl)) dL_law_1057 ⟨Nat.le_of_ble_eq_true rfl, Nat.le_of_ble_eq_true rfl⟩) hS (hw_AWsub (by decide) hGe1 hS.1) (fun v H locs hp hz hk hS => ?_)
    have l35 : (60 : Int32).toInt = 60 := rfl
    rcases hp with ⟨rfl, hH, v36, v37, v38, q39⟩ | ⟨rfl, hH, v40, v41, v42, q43, q44, q45⟩ | ⟨rfl, hH, v46, v47, v48, q49, q50, q51, q52, q53⟩ | ⟨rfl, hH, v54, v55, v56, q57, q58, q59, q60, q61, q62⟩ | ⟨x63, rfl, hH, v64, v65, v66, q67, q68, q69, q70, q71, q72, q73⟩
    · have hRK := hw_Racks.kept hRK (fun q9 h9 l9 => hk q9 l9 (hw_AWn h9 (by decide) l9))
      have v2 := va_at.kept v2 (hk _ (hw_lt v2) (hw_AWn gx (by decide) (hw_lt v2)))
      have vc := va_at.kept vc (hk _ (hw_lt vc) (hw_AWn (hw_RX_0 Rx) (by decide) (hw_lt vc)))
      have vt := va_at.kept vt (hk _ (hw_lt vt) (hw_AWn (hw_RX_1 Rx) (by decide) (hw_lt vt)))
      have vn := va_at.kept vn (hk _ (hw_lt vn) (hw_AWn (hw_RX_2 Rx) (by decide) (hw_lt vn)))
      have v3 := va_at.kept v3 (hk _ (hw_lt v3) (hw_AWn (hw_RX_13 Rx) (by decide) (hw_lt v3)))
      have vro := va_at.kept vro (hk _ (hw_lt vro) (hw_AWn (hw_RM_0 Rm) (by decide) (hw_lt vro)))
      have vik := va_at.kept vik (hk _ (hw_lt vik) (hw_AWn (hw_RM_2 Rm) (by decide) (hw_lt vik)))
      refine lv_icmp_eq (tgt := 1188) hx hb dL_law_1060 (by decide) (fun c74 => ?_) (fun c74 => ?_)
      · refine lv_iinc (v := 6) (lv' := [(3, .int 6), (2, .ref mo), (1, .ref x), (0, .ref b)]) hx hb dL_law_1188 hl (k := 0) rfl (by rfl) (by decide) rfl (fun ls hl => ?_)
        refine lv_goto (tgt := 18) hx hb dL_law_1191 (by decide) ?_
        refine lv_iload_n hx hb dL_law_18 rfl (lv_at hl 0 rfl) ?_
        refine lv_aload_n hx hb dL_law_19 rfl (lv_at hl 3 rfl) ?_
        refine va_slen hx hb hX hbl hbA hS dL_law_20 ?_
        refine lv_bipush (v := 6) hx hb dL_law_21 (by decide) ?_
        refine lv_isub hx hb dL_law_23 ?_
        refine lv_topi (fun x75 e76 => ?_)
        have t77 : x75.toInt = (Int32.ofNat L).toInt - 6 := by rw [e76]; exact hw_sub rfl rfl (by omega) (by omega)
        refine lv_icmp_gt (tgt := 1194) hx hb dL_law_24 (by decide) (fun c78 => ?_) (fun c78 => ?_)
        · have b79 : x75.toInt < 6 := hw_ilt c78
          refine lv_iconst (v := 1) hx hb dL_law_1194 (by decide) ?_
          have hfg := hw_hfg hG0 (by decide) hS.2.2
          refine va_forget hfg ?_
          refine W.widen (k := 600000) (n := 7302250) (by decide) (by decide) ?_
          exact lw_ret hx hb hr hlocks dL_law_1195
        · have b80 : 6 ≤ x75.toInt := hw_inlt c78
          exfalso; omega
      · exact absurd c74 (by decide)
    · have hRK := hw_Racks.kept hRK (fun q9 h9 l9 => hk q9 l9 (hw_AWn h9 (by decide) l9))
      have v2 := va_at.kept v2 (hk _ (hw_lt v2) (hw_AWn gx (by decide) (hw_lt v2)))
      have vc := va_at.kept vc (hk _ (hw_lt vc) (hw_AWn (hw_RX_0 Rx) (by decide) (hw_lt vc)))
      have vt := va_at.kept vt (hk _ (hw_lt vt) (hw_AWn (hw_RX_1 Rx) (by decide) (hw_lt vt)))
      have vn := va_at.kept vn (hk _ (hw_lt vn) (hw_AWn (hw_RX_2 Rx) (by decide) (hw_lt vn)))
      have v3 := va_at.kept v3 (hk _ (hw_lt v3) (hw_AWn (hw_RX_13 Rx) (by decide) (hw_lt v3)))
      have vro := va_at.kept vro (hk _ (hw_lt vro) (hw_AWn (hw_RM_0 Rm) (by decide) (hw_lt vro)))
      have vik := va_at.kept vik (hk _ (hw_lt vik) (hw_AWn (hw_RM_2 Rm) (by decide) (hw_lt vik)))
      refine lv_icmp_eq (tgt := 1188) hx hb dL_law_1060 (by decide) (fun c81 => ?_) (fun c81 => ?_)
      · exact absurd c81 (by decide)
      · exfalso
        first | omega | contradiction | (subst_vars; omega)
    · have hRK := hw_Racks.kept hRK (fun q9 h9 l9 => hk q9 l9 (hw_AWn h9 (by decide) l9))
      have v2 := va_at.kept v2 (hk _ (hw_lt v2) (hw_AWn gx (by decide) (hw_lt v2)))
      have vc := va_at.kept vc (hk _ (hw_lt vc) (hw_AWn (hw_RX_0 Rx) (by decide) (hw_lt vc)))
      have vt := va_at.kept vt (hk _ (hw_lt vt) (hw_AWn (hw_RX_1 Rx) (by decide) (hw_lt vt)))
      have vn := va_at.kept vn (hk _ (hw_lt vn) (hw_AWn (hw_RX_2 Rx) (by decide) (hw_lt vn)))
      have v3 := va_at.kept v3 (hk _ (hw_lt v3) (hw_AWn (hw_RX_13 Rx) (by decide) (hw_lt v3)))
      have vro := va_at.kept vro (hk _ (hw_lt vro) (hw_AWn (hw_RM_0 Rm) (by decide) (hw_lt vro)))
      have vik := va_at.kept vik (hk _ (hw_lt vik) (hw_AWn (hw_RM_2 Rm) (by decide) (hw_lt vik)))
      refine lv_icmp_eq (tgt := 1188) hx hb dL_law_1060 (by decide) (fun c82 => ?_) (fun c82 => ?_)
      · exact absurd c82 (by decide)
      · exfalso
        first | omega | contradiction | (subst_vars; omega)
    · have hRK := hw_Racks.kept hRK (fun q9 h9 l9 => hk q9 l9 (hw_AWn h9 (by decide) l9))
      have v2 := va_at.kept v2 (hk _ (hw_lt v2) (hw_AWn gx (by decide) (hw_lt v2)))
      have vc := va_at.kept vc (hk _ (hw_lt vc) (hw_AWn (hw_RX_0 Rx) (by decide) (hw_lt vc)))
      have vt := va_at.kept vt (hk _ (hw_lt vt) (hw_AWn (hw_RX_1 Rx) (by decide) (hw_lt vt)))
      have vn := va_at.kept vn (hk _ (hw_lt vn) (hw_AWn (hw_RX_2 Rx) (by decide) (hw_lt vn)))
      have v3 := va_at.kept v3 (hk _ (hw_lt v3) (hw_AWn (hw_RX_13 Rx) (by decide) (hw_lt v3)))
      have vro := va_at.kept vro (hk _ (hw_lt vro) (hw_AWn (hw_RM_0 Rm) (by decide) (hw_lt vro)))
      have vik := va_at.kept vik (hk _ (hw_lt vik) (hw_AWn (hw_RM_2 Rm) (by decide) (hw_lt vik)))
      refine lv_icmp_eq (tgt := 1188) hx hb dL_law_1060 (by decide) (fun c83 => ?_) (fun c83 => ?_)
      · exact absurd c83 (by decide)
      · exfalso
        first | omega | contradiction | (subst_vars; omega)
    · have q73i := hw_ieq q73
      have hRK := hw_Racks.kept hRK (fun q9 h9 l9 => hk q9 l9 (hw_AWn h9 (by decide) l9))
      have v2 := va_at.kept v2 (hk _ (hw_lt v2) (hw_AWn gx (by decide) (hw_lt v2)))
      have vc := va_at.kept vc (hk _ (hw_lt vc) (hw_AWn (hw_RX_0 Rx) (by decide) (hw_lt vc)))
      have vt := va_at.kept vt (hk _ (hw_lt vt) (hw_AWn (hw_RX_1 Rx) (by decide) (hw_lt vt)))
      have vn := va_at.kept vn (hk _ (hw_lt vn) (hw_AWn (hw_RX_2 Rx) (by decide) (hw_lt vn)))
      have v3 := va_at.kept v3 (hk _ (hw_lt v3) (hw_AWn (hw_RX_13 Rx) (by decide) (hw_lt v3)))
      have vro := va_at.kept vro (hk _ (hw_lt vro) (hw_AWn (hw_RM_0 Rm) (by decide) (hw_lt vro)))
      have vik := va_at.kept vik (hk _ (hw_lt vik) (hw_AWn (hw_RM_2 Rm) (by decide) (hw_lt vik)))
      refine lv_icmp_eq (tgt := 1188) hx hb dL_law_1060 (by decide) (fun c84 => ?_) (fun c84 => ?_)
      · have b85 : (-2) = x63.toInt := hw_ieq c84
        refine lv_iinc (v := 6) (lv' := [(3, .int 6), (2, .ref mo), (1, .ref x), (0, .ref b)]) hx hb dL_law_1188 hl (k := 0) rfl (by rfl) (by decide) rfl (fun ls hl => ?_)
        refine lv_goto (tgt := 18) hx hb dL_law_1191 (by decide) ?_
        refine lv_iload_n hx hb dL_law_18 rfl (lv_at hl 0 rfl) ?_
        refine lv_aload_n hx hb dL_law_19 rfl (lv_at hl 3 rfl) ?_
        refine va_slen hx hb hX hbl hbA hS dL_law_20 ?_
        refine lv_bipush (v := 6) hx hb dL_law_21 (by decide) ?_
        refine lv_isub hx hb dL_law_23 ?_
        refine lv_topi (fun x86 e87 => ?_)
        have t88 : x86.toInt = (Int32.ofNat L).toInt - 6 := by rw [e87]; exact hw_sub rfl rfl (by omega) (by omega)
        refine lv_icmp_gt (tgt := 1194) hx hb dL_law_24 (by decide) (fun c89 => ?_) (fun c89 => ?_)
        · have b90 : x86.toInt < 6 := hw_ilt c89
          refine lv_iconst (v := 1) hx hb dL_law_1194 (by decide) ?_
          have hfg := hw_hfg hG0 (by decide) hS.2.2
          refine va_forget hfg ?_
          refine W.widen (k := 600000) (n := 7302250) (by decide) (by decide) ?_
          exact lw_ret hx hb hr hlocks dL_law_1195
        · have b91 : 6 ≤ x86.toInt := hw_inlt c89
          exfalso; omega
      · have b92 : (-2) ≠ x63.toInt := hw_ine c84
        exfalso
        first | omega | contradiction | (subst_vars; omega)
  · have vc := va_at.kept vc (hk _ (hw_lt vc) (hw_AWn (hw_RX_0 Rx) (by decide) (hw_lt vc)))
    have vt := va_at.kept vt (hk _ (hw_lt vt) (hw_AWn (hw_RX_1 Rx) (by decide) (hw_lt vt)))
    have vn := va_at.kept vn (hk _ (hw_lt vn) (hw_AWn (hw_RX_2 Rx) (by decide) (hw_lt vn)))
    have vm := va_at.kept vm (hk _ (hw_lt vm) (hw_AWn gm (by decide) (hw_lt vm)))
    have vro := va_at.kept vro (hk _ (hw_lt vro) (hw_AWn (hw_RM_0 Rm) (by decide) (hw_lt vro)))
    have vik := va_at.kept vik (hk _ (hw_lt vik) (hw_AWn (hw_RM_2 Rm) (by decide) (hw_lt vik)))
    have vla := va_at.kept vla (hk _ (hw_lt vla) (hw_AWn (hw_RM_41 Rm) (by decide) (hw_lt vla)))
    have vsz := va_at.kept vsz (hk _ (hw_lt vsz) (hw_AWn (hw_RM_42 Rm) (by decide) (hw_lt vsz)))
    refine lv_aload_n hx hb dL_law_1031 rfl (lv_at hl 1 rfl) ?_
    refine lv_aload_n hx hb dL_law_1032 rfl (lv_at hl 3 rfl) ?_
    refine lv_iload_n hx hb dL_law_1033 rfl (lv_at hl 0 rfl) ?_
    refine lv_iconst (v := 1) hx hb dL_law_1034 (by decide) ?_
    refine lv_iadd hx hb dL_law_1035 ?_
    refine W.eq (g2 := F0 m 1036 ls [.int 1, .ref b, .ref mo, .int (-11)]) rfl ?_
    refine va_sld hx hb hX hbl hbA hS (hw_in (x := 1) (by decide) (by have h9 : (1 : Int32).toInt = 1 := rfl; omega)) dL_law_1036 ?_
    refine W.eq (g2 := F0 m 1037 ls [.int (xs 1), .ref mo, .int (-11)]) rfl ?_
    refine lv_aload_n hx hb dL_law_1037 rfl (lv_at hl 3 rfl) ?_
    refine lv_iload_n hx hb dL_law_1038 rfl (lv_at hl 0 rfl) ?_
    refine lv_iconst (v := 2) hx hb dL_law_1039 (by decide) ?_
    refine lv_iadd hx hb dL_law_1040 ?_
    refine W.eq (g2 := F0 m 1041 ls [.int 2, .ref b, .int (xs 1), .ref mo, .int (-11)]) rfl ?_
    refine va_sld hx hb hX hbl hbA hS (hw_in (x := 2) (by decide) (by have h9 : (2 : Int32).toInt = 2 := rfl; omega)) dL_law_1041 ?_
    refine W.eq (g2 := F0 m 1042 ls [.int (xs 2), .int (xs 1), .ref mo, .int (-11)]) rfl ?_
    refine lv_aload_n hx hb dL_law_1042 rfl (lv_at hl 3 rfl) ?_
    refine lv_iload_n hx hb dL_law_1043 rfl (lv_at hl 0 rfl) ?_
    refine lv_iconst (v := 3) hx hb dL_law_1044 (by decide) ?_
    refine lv_iadd hx hb dL_law_1045 ?_
    refine W.eq (g2 := F0 m 1046 ls [.int 3, .ref b, .int (xs 2), .int (xs 1), .ref mo, .int (-11)]) rfl ?_
    refine va_sld hx hb hX hbl hbA hS (hw_in (x := 3) (by decide) (by have h9 : (3 : Int32).toInt = 3 := rfl; omega)) dL_law_1046 ?_
    refine W.eq (g2 := F0 m 1047 ls [.int (xs 3), .int (xs 2), .int (xs 1), .ref mo, .int (-11)]) rfl ?_
    refine lv_aload_n hx hb dL_law_1047 rfl (lv_at hl 3 rfl) ?_
    refine lv_iload_n hx hb dL_law_1048 rfl (lv_at hl 0 rfl) ?_
    refine lv_iconst (v := 4) hx hb dL_law_1049 (by decide) ?_
    refine lv_iadd hx hb dL_law_1050 ?_
    refine W.eq (g2 := F0 m 1051 ls [.int 4, .ref b, .int (xs 3), .int (xs 2), .int (xs 1), .ref mo, .int (-11)]) rfl ?_
    refine va_sld hx hb hX hbl hbA hS (hw_in (x := 4) (by decide) (by have h9 : (4 : Int32).toInt = 4 := rfl; omega)) dL_law_1051 ?_
    refine W.eq (g2 := F0 m 1052 ls [.int (xs 4), .int (xs 3), .int (xs 2), .int (xs 1), .ref mo, .int (-11)]) rfl ?_
    refine lv_aload_n hx hb dL_law_1052 rfl (lv_at hl 3 rfl) ?_
    refine lv_iload_n hx hb dL_law_1053 rfl (lv_at hl 0 rfl) ?_
    refine lv_iconst (v := 5) hx hb dL_law_1054 (by decide) ?_
    refine lv_iadd hx hb dL_law_1055 ?_
    refine W.eq (g2 := F0 m 1056 ls [.int 5, .ref b, .int (xs 4), .int (xs 3), .int (xs 2), .int (xs 1), .ref mo, .int (-11)]) rfl ?_
    refine va_sld hx hb hX hbl hbA hS (hw_in (x := 5) (by decide) (by have h9 : (5 : Int32).toInt = 5 := rfl; omega)) dL_law_1056 ?_
    refine W.eq (g2 := F0 m 1057 ls [.int (xs 5), .int (xs 4), .int (xs 3), .int (xs 2), .int (xs 1), .ref mo, .int (-11)]) rfl ?_
    refine hw_cM0 (va_runV (As := [.int (xs 1), .int (xs 2), .int (xs 3), .int (xs 4), .int (xs 5)]) (rest := [.int (-11)]) ⟨hx, hb, hml, hown, hts⟩ (k_X12_copy l D G1 mo (xs 1) (xs 2) (xs 3) (xs 4) (xs 5) _ rm 0 0 0 0 60 0 0 0 0 0 0 0 0 0 fla fsz gm Rm ⟨by first | decide | omega, by first | decide | omega⟩ ⟨by first | decide | omega, by first | decide | omega⟩ ⟨by first | decide | omega, by first | decide | omega⟩ ⟨by first | decide | omega, by first | decide | omega⟩ ⟨by first | decide | omega, by first | decide | omega⟩ ⟨by first | decide | omega, by first | decide | omega⟩ ⟨by first | decide | omega, by first | decide | omega⟩ ⟨by first | decide | omega, by first | decide | omega⟩ ⟨by first | decide | omega, by first | decide | omega⟩ ⟨by first | decide | omega, by first | decide | omega⟩ ⟨by first | decide | omega, by first | decide | omega⟩ ⟨by first | decide | omega, by first | decide | omega⟩ qsz) (cwV 5 hts gL_law_X12_copy rfl rfl rfl (by decide +kernel) ⟨Nat.le_of_ble_eq_true rfl, Nat.le_of_ble_eq_true rfl⟩) (hw_pV (hw_rc (q := (RX12, TX12, 45)) hK vm rfl) hH hK hST hS (by decide) (hw_hG hGe1) ⟨vm, vla, vsz⟩) rfl rfl hl.1 rfl (lv_room (Nat.le_of_ble_eq_true rfl)) dL_law_1057 ⟨Nat.le_of_ble_eq_true rfl, Nat.le_of_ble_eq_true rfl⟩) hS (hw_AWsub (by decide) hGe1 hS.1) (fun v H locs hp hz hk hS => ?_)
    have l93 : (60 : Int32).toInt = 60 := rfl
    rcases hp with ⟨rfl, hH, v94, v95, v96, q97⟩ | ⟨rfl, hH, v98, v99, v100, q101, q102, q103⟩ | ⟨rfl, hH, v104, v105, v106, q107, q108, q109, q110, q111⟩ | ⟨rfl, hH, v112, v113, v114, q115, q116, q117, q118, q119, q120⟩ | ⟨x121, rfl, hH, v122, v123, v124, q125, q126, q127, q128, q129, q130, q131⟩
    · have hRK := hw_Racks.kept hRK (fun q9 h9 l9 => hk q9 l9 (hw_AWn h9 (by decide) l9))
      have v5 := va_at.kept v5 (hk _ (hw_lt v5) (hw_AWn gx (by decide) (hw_lt v5)))
      have vc := va_at.kept vc (hk _ (hw_lt vc) (hw_AWn (hw_RX_0 Rx) (by decide) (hw_lt vc)))
      have vt := va_at.kept vt (hk _ (hw_lt vt) (hw_AWn (hw_RX_1 Rx) (by decide) (hw_lt vt)))
      have vn := va_at.kept vn (hk _ (hw_lt vn) (hw_AWn (hw_RX_2 Rx) (by decide) (hw_lt vn)))
      have v6 := va_at.kept v6 (hk _ (hw_lt v6) (hw_AWn (hw_RX_13 Rx) (by decide) (hw_lt v6)))
      have vro := va_at.kept vro (hk _ (hw_lt vro) (hw_AWn (hw_RM_0 Rm) (by decide) (hw_lt vro)))
      have vik := va_at.kept vik (hk _ (hw_lt vik) (hw_AWn (hw_RM_2 Rm) (by decide) (hw_lt vik)))
      refine lv_icmp_eq (tgt := 1188) hx hb dL_law_1060 (by decide) (fun c132 => ?_) (fun c132 => ?_)
      · exact absurd c132 (by decide)
      · exfalso
        first | omega | contradiction | (subst_vars; omega)
    · have hRK := hw_Racks.kept hRK (fun q9 h9 l9 => hk q9 l9 (hw_AWn h9 (by decide) l9))
      have v5 := va_at.kept v5 (hk _ (hw_lt v5) (hw_AWn gx (by decide) (hw_lt v5)))
      have vc := va_at.kept vc (hk _ (hw_lt vc) (hw_AWn (hw_RX_0 Rx) (by decide) (hw_lt vc)))
      have vt := va_at.kept vt (hk _ (hw_lt vt) (hw_AWn (hw_RX_1 Rx) (by decide) (hw_lt vt)))
      have vn := va_at.kept vn (hk _ (hw_lt vn) (hw_AWn (hw_RX_2 Rx) (by decide) (hw_lt vn)))
      have v6 := va_at.kept v6 (hk _ (hw_lt v6) (hw_AWn (hw_RX_13 Rx) (by decide) (hw_lt v6)))
      have vro := va_at.kept vro (hk _ (hw_lt vro) (hw_AWn (hw_RM_0 Rm) (by decide) (hw_lt vro)))
      have vik := va_at.kept vik (hk _ (hw_lt vik) (hw_AWn (hw_RM_2 Rm) (by decide) (hw_lt vik)))
      refine lv_icmp_eq (tgt := 1188) hx hb dL_law_1060 (by decide) (fun c133 => ?_) (fun c133 => ?_)
      · refine lv_iinc (v := 6) (lv' := [(3, .int 6), (2, .ref mo), (1, .ref x), (0, .ref b)]) hx hb dL_law_1188 hl (k := 0) rfl (by rfl) (by decide) rfl (fun ls hl => ?_)
        refine lv_goto (tgt := 18) hx hb dL_law_1191 (by decide) ?_
        refine lv_iload_n hx hb dL_law_18 rfl (lv_at hl 0 rfl) ?_
        refine lv_aload_n hx hb dL_law_19 rfl (lv_at hl 3 rfl) ?_
        refine va_slen hx hb hX hbl hbA hS dL_law_20 ?_
        refine lv_bipush (v := 6) hx hb dL_law_21 (by decide) ?_
        refine lv_isub hx hb dL_law_23 ?_
        refine lv_topi (fun x134 e135 => ?_)
        have t136 : x134.toInt = (Int32.ofNat L).toInt - 6 := by rw [e135]; exact hw_sub rfl rfl (by omega) (by omega)
        refine lv_icmp_gt (tgt := 1194) hx hb dL_law_24 (by decide) (fun c137 => ?_) (fun c137 => ?_)
        · have b138 : x134.toInt < 6 := hw_ilt c137
          refine lv_iconst (v := 1) hx hb dL_law_1194 (by decide) ?_
          have hfg := hw_hfg hG0 (by decide) hS.2.2
          refine va_forget hfg ?_
          refine W.widen (k := 600000) (n := 7302250) (by decide) (by decide) ?_
          exact lw_ret hx hb hr hlocks dL_law_1195
        · have b139 : 6 ≤ x134.toInt := hw_inlt c137
          exfalso; omega
      · exact absurd c133 (by decide)
    · have hRK := hw_Racks.kept hRK (fun q9 h9 l9 => hk q9 l9 (hw_AWn h9 (by decide) l9))
      have v5 := va_at.kept v5 (hk _ (hw_lt v5) (hw_AWn gx (by decide) (hw_lt v5)))
      have vc := va_at.kept vc (hk _ (hw_lt vc) (hw_AWn (hw_RX_0 Rx) (by decide) (hw_lt vc)))
      have vt := va_at.kept vt (hk _ (hw_lt vt) (hw_AWn (hw_RX_1 Rx) (by decide) (hw_lt vt)))
      have vn := va_at.kept vn (hk _ (hw_lt vn) (hw_AWn (hw_RX_2 Rx) (by decide) (hw_lt vn)))
      have v6 := va_at.kept v6 (hk _ (hw_lt v6) (hw_AWn (hw_RX_13 Rx) (by decide) (hw_lt v6)))
      have vro := va_at.kept vro (hk _ (hw_lt vro) (hw_AWn (hw_RM_0 Rm) (by decide) (hw_lt vro)))
      have vik := va_at.kept vik (hk _ (hw_lt vik) (hw_AWn (hw_RM_2 Rm) (by decide) (hw_lt vik)))
      refine lv_icmp_eq (tgt := 1188) hx hb dL_law_1060 (by decide) (fun c140 => ?_) (fun c140 => ?_)
      · exact absurd c140 (by decide)
      · exfalso
        first | omega | contradiction | (subst_vars; omega)
    · have hRK := hw_Racks.kept hRK (fun q9 h9 l9 => hk q9 l9 (hw_AWn h9 (by decide) l9))
      have v5 := va_at.kept v5 (hk _ (hw_lt v5) (hw_AWn gx (by decide) (hw_lt v5)))
      have vc := va_at.kept vc (hk _ (hw_lt vc) (hw_AWn (hw_RX_0 Rx) (by decide) (hw_lt vc)))
      have vt := va_at.kept vt (hk _ (hw_lt vt) (hw_AWn (hw_RX_1 Rx) (by decide) (hw_lt vt)))
      have vn := va_at.kept vn (hk _ (hw_lt vn) (hw_AWn (hw_RX_2 Rx) (by decide) (hw_lt vn)))
      have v6 := va_at.kept v6 (hk _ (hw_lt v6) (hw_AWn (hw_RX_13 Rx) (by decide) (hw_lt v6)))
      have vro := va_at.kept vro (hk _ (hw_lt vro) (hw_AWn (hw_RM_0 Rm) (by decide) (hw_lt vro)))
      have vik := va_at.kept vik (hk _ (hw_lt vik) (hw_AWn (hw_RM_2 Rm) (by decide) (hw_lt vik)))
      refine lv_icmp_eq (tgt := 1188) hx hb dL_law_1060 (by decide) (fun c141 => ?_) (fun c141 => ?_)
      · exact absurd c141 (by decide)
      · exfalso
        first | omega | contradiction | (subst_vars; omega)
    · have q131i := hw_ieq q131
      have hRK := hw_Racks.kept hRK (fun q9 h9 l9 => hk q9 l9 (hw_AWn h9 (by decide) l9))
      have v5 := va_at.kept v5 (hk _ (hw_lt v5) (hw_AWn gx (by decide) (hw_lt v5)))
      have vc := va_at.kept vc (hk _ (hw_lt vc) (hw_AWn (hw_RX_0 Rx) (by decide) (hw_lt vc)))
      have vt := va_at.kept vt (hk _ (hw_lt vt) (hw_AWn (hw_RX_1 Rx) (by decide) (hw_lt vt)))
      have vn := va_at.kept vn (hk _ (hw_lt vn) (hw_AWn (hw_RX_2 Rx) (by decide) (hw_lt vn)))
      have v6 := va_at.kept v6 (hk _ (hw_lt v6) (hw_AWn (hw_RX_13 Rx) (by decide) (hw_lt v6)))
      have vro := va_at.kept vro (hk _ (hw_lt vro) (hw_AWn (hw_RM_0 Rm) (by decide) (hw_lt vro)))
      have vik := va_at.kept vik (hk _ (hw_lt vik) (hw_AWn (hw_RM_2 Rm) (by decide) (hw_lt vik)))
      refine lv_icmp_eq (tgt := 1188) hx hb dL_law_1060 (by decide) (fun c142 => ?_) (fun c142 => ?_)
      · have b143 : (-11) = x121.toInt := hw_ieq c142
        refine lv_iinc (v := 6) (lv' := [(3, .int 6), (2, .ref mo), (1, .ref x), (0, .ref b)]) hx hb dL_law_1188 hl (k := 0) rfl (by rfl) (by decide) rfl (fun ls hl => ?_)
        refine lv_goto (tgt := 18) hx hb dL_law_1191 (by decide) ?_
        refine lv_iload_n hx hb dL_law_18 rfl (lv_at hl 0 rfl) ?_
        refine lv_aload_n hx hb dL_law_19 rfl (lv_at hl 3 rfl) ?_
        refine va_slen hx hb hX hbl hbA hS dL_law_20 ?_
        refine lv_bipush (v := 6) hx hb dL_law_21 (by decide) ?_
        refine lv_isub hx hb dL_law_23 ?_
        refine lv_topi (fun x144 e145 => ?_)
        have t146 : x144.toInt = (Int32.ofNat L).toInt - 6 := by rw [e145]; exact hw_sub rfl rfl (by omega) (by omega)
        refine lv_icmp_gt (tgt := 1194) hx hb dL_law_24 (by decide) (fun c147 => ?_) (fun c147 => ?_)
        · have b148 : x144.toInt < 6 := hw_ilt c147
          refine lv_iconst (v := 1) hx hb dL_law_1194 (by decide) ?_
          have hfg := hw_hfg hG0 (by decide) hS.2.2
          refine va_forget hfg ?_
          refine W.widen (k := 600000) (n := 7302250) (by decide) (by decide) ?_
          exact lw_ret hx hb hr hlocks dL_law_1195
        · have b149 : 6 ≤ x144.toInt := hw_inlt c147
          exfalso; omega
      · have b150 : (-11) ≠ x121.toInt := hw_ine c142
        exfalso
        first | omega | contradiction | (subst_vars; omega)
  · have vc := va_at.kept vc (hk _ (hw_lt vc) (hw_AWn (hw_RX_0 Rx) (by decide) (hw_lt vc)))
    have vt := va_at.kept vt (hk _ (hw_lt vt) (hw_AWn (hw_RX_1 Rx) (by decide) (hw_lt vt)))
    have vn := va_at.kept vn (hk _ (hw_lt vn) (hw_AWn (hw_RX_2 Rx) (by decide) (hw_lt vn)))
    have vm := va_at.kept vm (hk _ (hw_lt vm) (hw_AWn gm (by decide) (hw_lt vm)))
    have vro := va_at.kept vro (hk _ (hw_lt vro) (hw_AWn (hw_RM_0 Rm) (by decide) (hw_lt vro)))
    have vik := va_at.kept vik (hk _ (hw_lt vik) (hw_AWn (hw_RM_2 Rm) (by decide) (hw_lt vik)))
    have vla := va_at.kept vla (hk _ (hw_lt vla) (hw_AWn (hw_RM_41 Rm) (by decide) (hw_lt vla)))
    have vsz := va_at.kept vsz (hk _ (hw_lt vsz) (hw_AWn (hw_RM_42 Rm) (by decide) (hw_lt vsz)))
    refine lv_aload_n hx hb dL_law_1031 rfl (lv_at hl 1 rfl) ?_
    refine lv_aload_n hx hb dL_law_1032 rfl (lv_at hl 3 rfl) ?_
    refine lv_iload_n hx hb dL_law_1033 rfl (lv_at hl 0 rfl) ?_
    refine lv_iconst (v := 1) hx hb dL_law_1034 (by decide) ?_
    refine lv_iadd hx hb dL_law_1035 ?_
    refine W.eq (g2 := F0 m 1036 ls [.int 1, .ref b, .ref mo, .int (-15)]) rfl ?_
    refine va_sld hx hb hX hbl hbA hS (hw_in (x := 1) (by decide) (by have h9 : (1 : Int32).toInt = 1 := rfl; omega)) dL_law_1036 ?_
    refine W.eq (g2 := F0 m 1037 ls [.int (xs 1), .ref mo, .int (-15)]) rfl ?_
    refine lv_aload_n hx hb dL_law_1037 rfl (lv_at hl 3 rfl) ?_
    refine lv_iload_n hx hb dL_law_1038 rfl (lv_at hl 0 rfl) ?_
    refine lv_iconst (v := 2) hx hb dL_law_1039 (by decide) ?_
    refine lv_iadd hx hb dL_law_1040 ?_
    refine W.eq (g2 := F0 m 1041 ls [.int 2, .ref b, .int (xs 1), .ref mo, .int (-15)]) rfl ?_
    refine va_sld hx hb hX hbl hbA hS (hw_in (x := 2) (by decide) (by have h9 : (2 : Int32).toInt = 2 := rfl; omega)) dL_law_1041 ?_
    refine W.eq (g2 := F0 m 1042 ls [.int (xs 2), .int (xs 1), .ref mo, .int (-15)]) rfl ?_
    refine lv_aload_n hx hb dL_law_1042 rfl (lv_at hl 3 rfl) ?_
    refine lv_iload_n hx hb dL_law_1043 rfl (lv_at hl 0 rfl) ?_
    refine lv_iconst (v := 3) hx hb dL_law_1044 (by decide) ?_
    refine lv_iadd hx hb dL_law_1045 ?_
    refine W.eq (g2 := F0 m 1046 ls [.int 3, .ref b, .int (xs 2), .int (xs 1), .ref mo, .int (-15)]) rfl ?_
    refine va_sld hx hb hX hbl hbA hS (hw_in (x := 3) (by decide) (by have h9 : (3 : Int32).toInt = 3 := rfl; omega)) dL_law_1046 ?_
    refine W.eq (g2 := F0 m 1047 ls [.int (xs 3), .int (xs 2), .int (xs 1), .ref mo, .int (-15)]) rfl ?_
    refine lv_aload_n hx hb dL_law_1047 rfl (lv_at hl 3 rfl) ?_
    refine lv_iload_n hx hb dL_law_1048 rfl (lv_at hl 0 rfl) ?_
    refine lv_iconst (v := 4) hx hb dL_law_1049 (by decide) ?_
    refine lv_iadd hx hb dL_law_1050 ?_
    refine W.eq (g2 := F0 m 1051 ls [.int 4, .ref b, .int (xs 3), .int (xs 2), .int (xs 1), .ref mo, .int (-15)]) rfl ?_
    refine va_sld hx hb hX hbl hbA hS (hw_in (x := 4) (by decide) (by have h9 : (4 : Int32).toInt = 4 := rfl; omega)) dL_law_1051 ?_
    refine W.eq (g2 := F0 m 1052 ls [.int (xs 4), .int (xs 3), .int (xs 2), .int (xs 1), .ref mo, .int (-15)]) rfl ?_
    refine lv_aload_n hx hb dL_law_1052 rfl (lv_at hl 3 rfl) ?_
    refine lv_iload_n hx hb dL_law_1053 rfl (lv_at hl 0 rfl) ?_
    refine lv_iconst (v := 5) hx hb dL_law_1054 (by decide) ?_
    refine lv_iadd hx hb dL_law_1055 ?_
    refine W.eq (g2 := F0 m 1056 ls [.int 5, .ref b, .int (xs 4), .int (xs 3), .int (xs 2), .int (xs 1), .ref mo, .int (-15)]) rfl ?_
    refine va_sld hx hb hX hbl hbA hS (hw_in (x := 5) (by decide) (by have h9 : (5 : Int32).toInt = 5 := rfl; omega)) dL_law_1056 ?_
    refine W.eq (g2 := F0 m 1057 ls [.int (xs 5), .int (xs 4), .int (xs 3), .int (xs 2), .int (xs 1), .ref mo, .int (-15)]) rfl ?_
    refine hw_cM0 (va_runV (As := [.int (xs 1), .int (xs 2), .int (xs 3), .int (xs 4), .int (xs 5)]) (rest := [.int (-15)]) ⟨hx, hb, hml, hown, hts⟩ (k_X12_copy l D G1 mo (xs 1) (xs 2) (xs 3) (xs 4) (xs 5) _ rm 0 0 0 0 60 0 0 0 0 0 0 0 0 0 fla fsz gm Rm ⟨by first | decide | omega, by first | decide | omega⟩ ⟨by first | decide | omega, by first | decide | omega⟩ ⟨by first | decide | omega, by first | decide | omega⟩ ⟨by first | decide | omega, by first | decide | omega⟩ ⟨by first | decide | omega, by first | decide | omega⟩ ⟨by first | decide | omega, by first | decide | omega⟩ ⟨by first | decide | omega, by first | decide | omega⟩ ⟨by first | decide | omega, by first | decide | omega⟩ ⟨by first | decide | omega, by first | decide | omega⟩ ⟨by first | decide | omega, by first | decide | omega⟩ ⟨by first | decide | omega, by first | decide | omega⟩ ⟨by first | decide | omega, by first | decide | omega⟩ qsz) (cwV 5 hts gL_law_X12_copy rfl rfl rfl (by decide +kernel) ⟨Nat.le_of_ble_eq_true rfl, Nat.le_of_ble_eq_true rfl⟩) (hw_pV (hw_rc (q := (RX12, TX12, 45)) hK vm rfl) hH hK hST hS (by decide) (hw_hG hGe1) ⟨vm, vla, vsz⟩) rfl rfl hl.1 rfl (lv_room (Nat.le_of_ble_eq_true rfl)) dL_law_1057 ⟨Nat.le_of_ble_eq_true rfl, Nat.le_of_ble_eq_true rfl⟩) hS (hw_AWsub (by decide) hGe1 hS.1) (fun v H locs hp hz hk hS => ?_)
    have l151 : (60 : Int32).toInt = 60 := rfl
    rcases hp with ⟨rfl, hH, v152, v153, v154, q155⟩ | ⟨rfl, hH, v156, v157, v158, q159, q160, q161⟩ | ⟨rfl, hH, v162, v163, v164, q165, q166, q167, q168, q169⟩ | ⟨rfl, hH, v170, v171, v172, q173, q174, q175, q176, q177, q178⟩ | ⟨x179, rfl, hH, v180, v181, v182, q183, q184, q185, q186, q187, q188, q189⟩
    · have hRK := hw_Racks.kept hRK (fun q9 h9 l9 => hk q9 l9 (hw_AWn h9 (by decide) l9))
      have v10 := va_at.kept v10 (hk _ (hw_lt v10) (hw_AWn gx (by decide) (hw_lt v10)))
      have vc := va_at.kept vc (hk _ (hw_lt vc) (hw_AWn (hw_RX_0 Rx) (by decide) (hw_lt vc)))
      have vt := va_at.kept vt (hk _ (hw_lt vt) (hw_AWn (hw_RX_1 Rx) (by decide) (hw_lt vt)))
      have vn := va_at.kept vn (hk _ (hw_lt vn) (hw_AWn (hw_RX_2 Rx) (by decide) (hw_lt vn)))
      have v11 := va_at.kept v11 (hk _ (hw_lt v11) (hw_AWn (hw_RX_13 Rx) (by decide) (hw_lt v11)))
      have vro := va_at.kept vro (hk _ (hw_lt vro) (hw_AWn (hw_RM_0 Rm) (by decide) (hw_lt vro)))
      have vik := va_at.kept vik (hk _ (hw_lt vik) (hw_AWn (hw_RM_2 Rm) (by decide) (hw_lt vik)))
      refine lv_icmp_eq (tgt := 1188) hx hb dL_law_1060 (by decide) (fun c190 => ?_) (fun c190 => ?_)
      · exact absurd c190 (by decide)
      · exfalso
        first | omega | contradiction | (subst_vars; omega)
    · have hRK := hw_Racks.kept hRK (fun q9 h9 l9 => hk q9 l9 (hw_AWn h9 (by decide) l9))
      have v10 := va_at.kept v10 (hk _ (hw_lt v10) (hw_AWn gx (by decide) (hw_lt v10)))
      have vc := va_at.kept vc (hk _ (hw_lt vc) (hw_AWn (hw_RX_0 Rx) (by decide) (hw_lt vc)))
      have vt := va_at.kept vt (hk _ (hw_lt vt) (hw_AWn (hw_RX_1 Rx) (by decide) (hw_lt vt)))
      have vn := va_at.kept vn (hk _ (hw_lt vn) (hw_AWn (hw_RX_2 Rx) (by decide) (hw_lt vn)))
      have v11 := va_at.kept v11 (hk _ (hw_lt v11) (hw_AWn (hw_RX_13 Rx) (by decide) (hw_lt v11)))
      have vro := va_at.kept vro (hk _ (hw_lt vro) (hw_AWn (hw_RM_0 Rm) (by decide) (hw_lt vro)))
      have vik := va_at.kept vik (hk _ (hw_lt vik) (hw_AWn (hw_RM_2 Rm) (by decide) (hw_lt vik)))
      refine lv_icmp_eq (tgt := 1188) hx hb dL_law_1060 (by decide) (fun c191 => ?_) (fun c191 => ?_)
      · exact absurd c191 (by decide)
      · exfalso
        first | omega | contradiction | (subst_vars; omega)
    · have hRK := hw_Racks.kept hRK (fun q9 h9 l9 => hk q9 l9 (hw_AWn h9 (by decide) l9))
      have v10 := va_at.kept v10 (hk _ (hw_lt v10) (hw_AWn gx (by decide) (hw_lt v10)))
      have vc := va_at.kept vc (hk _ (hw_lt vc) (hw_AWn (hw_RX_0 Rx) (by decide) (hw_lt vc)))
      have vt := va_at.kept vt (hk _ (hw_lt vt) (hw_AWn (hw_RX_1 Rx) (by decide) (hw_lt vt)))
      have vn := va_at.kept vn (hk _ (hw_lt vn) (hw_AWn (hw_RX_2 Rx) (by decide) (hw_lt vn)))
      have v11 := va_at.kept v11 (hk _ (hw_lt v11) (hw_AWn (hw_RX_13 Rx) (by decide) (hw_lt v11)))
      have vro := va_at.kept vro (hk _ (hw_lt vro) (hw_AWn (hw_RM_0 Rm) (by decide) (hw_lt vro)))
      have vik := va_at.kept vik (hk _ (hw_lt vik) (hw_AWn (hw_RM_2 Rm) (by decide) (hw_lt vik)))
      refine lv_icmp_eq (tgt := 1188) hx hb dL_law_1060 (by decide) (fun c192 => ?_) (fun c192 => ?_)
      · refine lv_iinc (v := 6) (lv' := [(3, .int 6), (2, .ref mo), (1, .ref x), (0, .ref b)]) hx hb dL_law_1188 hl (k := 0) rfl (by rfl) (by decide) rfl (fun ls hl => ?_)
        refine lv_goto (tgt := 18) hx hb dL_law_1191 (by decide) ?_
        refine lv_iload_n hx hb dL_law_18 rfl (lv_at hl 0 rfl) ?_
        refine lv_aload_n hx hb dL_law_19 rfl (lv_at hl 3 rfl) ?_
        refine va_slen hx hb hX hbl hbA hS dL_law_20 ?_
        refine lv_bipush (v := 6) hx hb dL_law_21 (by decide) ?_
        refine lv_isub hx hb dL_law_23 ?_
        refine lv_topi (fun x193 e194 => ?_)
        have t195 : x193.toInt = (Int32.ofNat L).toInt - 6 := by rw [e194]; exact hw_sub rfl rfl (by omega) (by omega)
        refine lv_icmp_gt (tgt := 1194) hx hb dL_law_24 (by decide) (fun c196 => ?_) (fun c196 => ?_)
        · have b197 : x193.toInt < 6 := hw_ilt c196
          refine lv_iconst (v := 1) hx hb dL_law_1194 (by decide) ?_
          have hfg := hw_hfg hG0 (by decide) hS.2.2
          refine va_forget hfg ?_
          refine W.widen (k := 600000) (n := 7302250) (by decide) (by decide) ?_
          exact lw_ret hx hb hr hlocks dL_law_1195
        · have b198 : 6 ≤ x193.toInt := hw_inlt c196
          exfalso; omega
      · exact absurd c192 (by decide)
    · have hRK := hw_Racks.kept hRK (fun q9 h9 l9 => hk q9 l9 (hw_AWn h9 (by decide) l9))
      have v10 := va_at.kept v10 (hk _ (hw_lt v10) (hw_AWn gx (by decide) (hw_lt v10)))
      have vc := va_at.kept vc (hk _ (hw_lt vc) (hw_AWn (hw_RX_0 Rx) (by decide) (hw_lt vc)))
      have vt := va_at.kept vt (hk _ (hw_lt vt) (hw_AWn (hw_RX_1 Rx) (by decide) (hw_lt vt)))
      have vn := va_at.kept vn (hk _ (hw_lt vn) (hw_AWn (hw_RX_2 Rx) (by decide) (hw_lt vn)))
      have v11 := va_at.kept v11 (hk _ (hw_lt v11) (hw_AWn (hw_RX_13 Rx) (by decide) (hw_lt v11)))
      have vro := va_at.kept vro (hk _ (hw_lt vro) (hw_AWn (hw_RM_0 Rm) (by decide) (hw_lt vro)))
      have vik := va_at.kept vik (hk _ (hw_lt vik) (hw_AWn (hw_RM_2 Rm) (by decide) (hw_lt vik)))
      refine lv_icmp_eq (tgt := 1188) hx hb dL_law_1060 (by decide) (fun c199 => ?_) (fun c199 => ?_)
      · exact absurd c199 (by decide)
      · exfalso
        first | omega | contradiction | (subst_vars; omega)
    · have q189i := hw_ieq q189
      have hRK := hw_Racks.kept hRK (fun q9 h9 l9 => hk q9 l9 (hw_AWn h9 (by decide) l9))
      have v10 := va_at.kept v10 (hk _ (hw_lt v10) (hw_AWn gx (by decide) (hw_lt v10)))
      have vc := va_at.kept vc (hk _ (hw_lt vc) (hw_AWn (hw_RX_0 Rx) (by decide) (hw_lt vc)))
      have vt := va_at.kept vt (hk _ (hw_lt vt) (hw_AWn (hw_RX_1 Rx) (by decide) (hw_lt vt)))
      have vn := va_at.kept vn (hk _ (hw_lt vn) (hw_AWn (hw_RX_2 Rx) (by decide) (hw_lt vn)))
      have v11 := va_at.kept v11 (hk _ (hw_lt v11) (hw_AWn (hw_RX_13 Rx) (by decide) (hw_lt v11)))
      have vro := va_at.kept vro (hk _ (hw_lt vro) (hw_AWn (hw_RM_0 Rm) (by decide) (hw_lt vro)))
      have vik := va_at.kept vik (hk _ (hw_lt vik) (hw_AWn (hw_RM_2 Rm) (by decide) (hw_lt vik)))
      refine lv_icmp_eq (tgt := 1188) hx hb dL_law_1060 (by decide) (fun c200 => ?_) (fun c200 => ?_)
      · have b201 : (-15) = x179.toInt := hw_ieq c200
        refine lv_iinc (v := 6) (lv' := [(3, .int 6), (2, .ref mo), (1, .ref x), (0, .ref b)]) hx hb dL_law_1188 hl (k := 0) rfl (by rfl) (by decide) rfl (fun ls hl => ?_)
        refine lv_goto (tgt := 18) hx hb dL_law_1191 (by decide) ?_
        refine lv_iload_n hx hb dL_law_18 rfl (lv_at hl 0 rfl) ?_
        refine lv_aload_n hx hb dL_law_19 rfl (lv_at hl 3 rfl) ?_
        refine va_slen hx hb hX hbl hbA hS dL_law_20 ?_
        refine lv_bipush (v := 6) hx hb dL_law_21 (by decide) ?_
        refine lv_isub hx hb dL_law_23 ?_
        refine lv_topi (fun x202 e203 => ?_)
        have t204 : x202.toInt = (Int32.ofNat L).toInt - 6 := by rw [e203]; exact hw_sub rfl rfl (by omega) (by omega)
        refine lv_icmp_gt (tgt := 1194) hx hb dL_law_24 (by decide) (fun c205 => ?_) (fun c205 => ?_)
        · have b206 : x202.toInt < 6 := hw_ilt c205
          refine lv_iconst (v := 1) hx hb dL_law_1194 (by decide) ?_
          have hfg := hw_hfg hG0 (by decide) hS.2.2
          refine va_forget hfg ?_
          refine W.widen (k := 600000) (n := 7302250) (by decide) (by decide) ?_
          exact lw_ret hx hb hr hlocks dL_law_1195
        · have b207 : 6 ≤ x202.toInt := hw_inlt c205
          exfalso; omega
      · have b208 : (-15) ≠ x179.toInt := hw_ine c200
        exfalso
        first | omega | contradiction | (subst_vars; omega)
  · have vc := va_at.kept vc (hk _ (hw_lt vc) (hw_AWn (hw_RX_0 Rx) (by decide) (hw_lt vc)))
    have vt := va_at.kept vt (hk _ (hw_lt vt) (hw_AWn (hw_RX_1 Rx) (by decide) (hw_lt vt)))
    have vn := va_at.kept vn (hk _ (hw_lt vn) (hw_AWn (hw_RX_2 Rx) (by decide) (hw_lt vn)))
    have vm := va_at.kept vm (hk _ (hw_lt vm) (hw_AWn gm (by decide) (hw_lt vm)))
    have vro := va_at.kept vro (hk _ (hw_lt vro) (hw_AWn (hw_RM_0 Rm) (by decide) (hw_lt vro)))
    have vik := va_at.kept vik (hk _ (hw_lt vik) (hw_AWn (hw_RM_2 Rm) (by decide) (hw_lt vik)))
    have vla := va_at.kept vla (hk _ (hw_lt vla) (hw_AWn (hw_RM_41 Rm) (by decide) (hw_lt vla)))
    have vsz := va_at.kept vsz (hk _ (hw_lt vsz) (hw_AWn (hw_RM_42 Rm) (by decide) (hw_lt vsz)))
    refine lv_aload_n hx hb dL_law_1031 rfl (lv_at hl 1 rfl) ?_
    refine lv_aload_n hx hb dL_law_1032 rfl (lv_at hl 3 rfl) ?_
    refine lv_iload_n hx hb dL_law_1033 rfl (lv_at hl 0 rfl) ?_
    refine lv_iconst (v := 1) hx hb dL_law_1034 (by decide) ?_
    refine lv_iadd hx hb dL_law_1035 ?_
    refine W.eq (g2 := F0 m 1036 ls [.int 1, .ref b, .ref mo, .int (-13)]) rfl ?_
    refine va_sld hx hb hX hbl hbA hS (hw_in (x := 1) (by decide) (by have h9 : (1 : Int32).toInt = 1 := rfl; omega)) dL_law_1036 ?_
    refine W.eq (g2 := F0 m 1037 ls [.int (xs 1), .ref mo, .int (-13)]) rfl ?_
    refine lv_aload_n hx hb dL_law_1037 rfl (lv_at hl 3 rfl) ?_
    refine lv_iload_n hx hb dL_law_1038 rfl (lv_at hl 0 rfl) ?_
    refine lv_iconst (v := 2) hx hb dL_law_1039 (by decide) ?_
    refine lv_iadd hx hb dL_law_1040 ?_
    refine W.eq (g2 := F0 m 1041 ls [.int 2, .ref b, .int (xs 1), .ref mo, .int (-13)]) rfl ?_
    refine va_sld hx hb hX hbl hbA hS (hw_in (x := 2) (by decide) (by have h9 : (2 : Int32).toInt = 2 := rfl; omega)) dL_law_1041 ?_
    refine W.eq (g2 := F0 m 1042 ls [.int (xs 2), .int (xs 1), .ref mo, .int (-13)]) rfl ?_
    refine lv_aload_n hx hb dL_law_1042 rfl (lv_at hl 3 rfl) ?_
    refine lv_iload_n hx hb dL_law_1043 rfl (lv_at hl 0 rfl) ?_
    refine lv_iconst (v := 3) hx hb dL_law_1044 (by decide) ?_
    refine lv_iadd hx hb dL_law_1045 ?_
    refine W.eq (g2 := F0 m 1046 ls [.int 3, .ref b, .int (xs 2), .int (xs 1), .ref mo, .int (-13)]) rfl ?_
    refine va_sld hx hb hX hbl hbA hS (hw_in (x := 3) (by decide) (by have h9 : (3 : Int32).toInt = 3 := rfl; omega)) dL_law_1046 ?_
    refine W.eq (g2 := F0 m 1047 ls [.int (xs 3), .int (xs 2), .int (xs 1), .ref mo, .int (-13)]) rfl ?_
    refine lv_aload_n hx hb dL_law_1047 rfl (lv_at hl 3 rfl) ?_
    refine lv_iload_n hx hb dL_law_1048 rfl (lv_at hl 0 rfl) ?_
    refine lv_iconst (v := 4) hx hb dL_law_1049 (by decide) ?_
    refine lv_iadd hx hb dL_law_1050 ?_
    refine W.eq (g2 := F0 m 1051 ls [.int 4, .ref b, .int (xs 3), .int (xs 2), .int (xs 1), .ref mo, .int (-13)]) rfl ?_
    refine va_sld hx hb hX hbl hbA hS (hw_in (x := 4) (by decide) (by have h9 : (4 : Int32).toInt = 4 := rfl; omega)) dL_law_1051 ?_
    refine W.eq (g2 := F0 m 1052 ls [.int (xs 4), .int (xs 3), .int (xs 2), .int (xs 1), .ref mo, .int (-13)]) rfl ?_
    refine lv_aload_n hx hb dL_law_1052 rfl (lv_at hl 3 rfl) ?_
    refine lv_iload_n hx hb dL_law_1053 rfl (lv_at hl 0 rfl) ?_
    refine lv_iconst (v := 5) hx hb dL_law_1054 (by decide) ?_
    refine lv_iadd hx hb dL_law_1055 ?_
    refine W.eq (g2 := F0 m 1056 ls [.int 5, .ref b, .int (xs 4), .int (xs 3), .int (xs 2), .int (xs 1), .ref mo, .int (-13)]) rfl ?_
    refine va_sld hx hb hX hbl hbA hS (hw_in (x := 5) (by decide) (by have h9 : (5 : Int32).toInt = 5 := rfl; omega)) dL_law_1056 ?_
    refine W.eq (g2 := F0 m 1057 ls [.int (xs 5), .int (xs 4), .int (xs 3), .int (xs 2), .int (xs 1), .ref mo, .int (-13)]) rfl ?_
    refine hw_cM0 (va_runV (As := [.int (xs 1), .int (xs 2), .int (xs 3), .int (xs 4), .int (xs 5)]) (rest := [.int (-13)]) ⟨hx, hb, hml, hown, hts⟩ (k_X12_copy l D G1 mo (xs 1) (xs 2) (xs 3) (xs 4) (xs 5) _ rm 0 0 0 0 60 0 0 0 0 0 0 0 0 0 fla fsz gm Rm ⟨by first | decide | omega, by first | decide | omega⟩ ⟨by first | decide | omega, by first | decide | omega⟩ ⟨by first | decide | omega, by first | decide | omega⟩ ⟨by first | decide | omega, by first | decide | omega⟩ ⟨by first | decide | omega, by first | decide | omega⟩ ⟨by first | decide | omega, by first | decide | omega⟩ ⟨by first | decide | omega, by first | decide | omega⟩ ⟨by first | decide | omega, by first | decide | omega⟩ ⟨by first | decide | omega, by first | decide | omega⟩ ⟨by first | decide | omega, by first | decide | omega⟩ ⟨by first | decide | omega, by first | decide | omega⟩ ⟨by first | decide | omega, by first | decide | omega⟩ qsz) (cwV 5 hts gL_law_X12_copy rfl rfl rfl (by decide +kernel) ⟨Nat.le_of_ble_eq_true rfl, Nat.le_of_ble_eq_true rfl⟩) (hw_pV (hw_rc (q := (RX12, TX12, 45)) hK vm rfl) hH hK hST hS (by decide) (hw_hG hGe1) ⟨vm, vla, vsz⟩) rfl rfl hl.1 rfl (lv_room (Nat.le_of_ble_eq_true rfl)) dL_law_1057 ⟨Nat.le_of_ble_eq_true rfl, Nat.le_of_ble_eq_true rfl⟩) hS (hw_AWsub (by decide) hGe1 hS.1) (fun v H locs hp hz hk hS => ?_)
    have l209 : (60 : Int32).toInt = 60 := rfl
    rcases hp with ⟨rfl, hH, v210, v211, v212, q213⟩ | ⟨rfl, hH, v214, v215, v216, q217, q218, q219⟩ | ⟨rfl, hH, v220, v221, v222, q223, q224, q225, q226, q227⟩ | ⟨rfl, hH, v228, v229, v230, q231, q232, q233, q234, q235, q236⟩ | ⟨x237, rfl, hH, v238, v239, v240, q241, q242, q243, q244, q245, q246, q247⟩
    · have hRK := hw_Racks.kept hRK (fun q9 h9 l9 => hk q9 l9 (hw_AWn h9 (by decide) l9))
      have v17 := va_at.kept v17 (hk _ (hw_lt v17) (hw_AWn gx (by decide) (hw_lt v17)))
      have vc := va_at.kept vc (hk _ (hw_lt vc) (hw_AWn (hw_RX_0 Rx) (by decide) (hw_lt vc)))
      have vt := va_at.kept vt (hk _ (hw_lt vt) (hw_AWn (hw_RX_1 Rx) (by decide) (hw_lt vt)))
      have vn := va_at.kept vn (hk _ (hw_lt vn) (hw_AWn (hw_RX_2 Rx) (by decide) (hw_lt vn)))
      have v18 := va_at.kept v18 (hk _ (hw_lt v18) (hw_AWn (hw_RX_13 Rx) (by decide) (hw_lt v18)))
      have vro := va_at.kept vro (hk _ (hw_lt vro) (hw_AWn (hw_RM_0 Rm) (by decide) (hw_lt vro)))
      have vik := va_at.kept vik (hk _ (hw_lt vik) (hw_AWn (hw_RM_2 Rm) (by decide) (hw_lt vik)))
      refine lv_icmp_eq (tgt := 1188) hx hb dL_law_1060 (by decide) (fun c248 => ?_) (fun c248 => ?_)
      · exact absurd c248 (by decide)
      · exfalso
        first | omega | contradiction | (subst_vars; omega)
    · have hRK := hw_Racks.kept hRK (fun q9 h9 l9 => hk q9 l9 (hw_AWn h9 (by decide) l9))
      have v17 := va_at.kept v17 (hk _ (hw_lt v17) (hw_AWn gx (by decide) (hw_lt v17)))
      have vc := va_at.kept vc (hk _ (hw_lt vc) (hw_AWn (hw_RX_0 Rx) (by decide) (hw_lt vc)))
      have vt := va_at.kept vt (hk _ (hw_lt vt) (hw_AWn (hw_RX_1 Rx) (by decide) (hw_lt vt)))
      have vn := va_at.kept vn (hk _ (hw_lt vn) (hw_AWn (hw_RX_2 Rx) (by decide) (hw_lt vn)))
      have v18 := va_at.kept v18 (hk _ (hw_lt v18) (hw_AWn (hw_RX_13 Rx) (by decide) (hw_lt v18)))
      have vro := va_at.kept vro (hk _ (hw_lt vro) (hw_AWn (hw_RM_0 Rm) (by decide) (hw_lt vro)))
      have vik := va_at.kept vik (hk _ (hw_lt vik) (hw_AWn (hw_RM_2 Rm) (by decide) (hw_lt vik)))
      refine lv_icmp_eq (tgt := 1188) hx hb dL_law_1060 (by decide) (fun c249 => ?_) (fun c249 => ?_)
      · exact absurd c249 (by decide)
      · exfalso
        first | omega | contradiction | (subst_vars; omega)
    · have hRK := hw_Racks.kept hRK (fun q9 h9 l9 => hk q9 l9 (hw_AWn h9 (by decide) l9))
      have v17 := va_at.kept v17 (hk _ (hw_lt v17) (hw_AWn gx (by decide) (hw_lt v17)))
      have vc := va_at.kept vc (hk _ (hw_lt vc) (hw_AWn (hw_RX_0 Rx) (by decide) (hw_lt vc)))
      have vt := va_at.kept vt (hk _ (hw_lt vt) (hw_AWn (hw_RX_1 Rx) (by decide) (hw_lt vt)))
      have vn := va_at.kept vn (hk _ (hw_lt vn) (hw_AWn (hw_RX_2 Rx) (by decide) (hw_lt vn)))
      have v18 := va_at.kept v18 (hk _ (hw_lt v18) (hw_AWn (hw_RX_13 Rx) (by decide) (hw_lt v18)))
      have vro := va_at.kept vro (hk _ (hw_lt vro) (hw_AWn (hw_RM_0 Rm) (by decide) (hw_lt vro)))
      have vik := va_at.kept vik (hk _ (hw_lt vik) (hw_AWn (hw_RM_2 Rm) (by decide) (hw_lt vik)))
      refine lv_icmp_eq (tgt := 1188) hx hb dL_law_1060 (by decide) (fun c250 => ?_) (fun c250 => ?_)
      · exact absurd c250 (by decide)
      · exfalso
        first | omega | contradiction | (subst_vars; omega)
    · have hRK := hw_Racks.kept hRK (fun q9 h9 l9 => hk q9 l9 (hw_AWn h9 (by decide) l9))
      have v17 := va_at.kept v17 (hk _ (hw_lt v17) (hw_AWn gx (by decide) (hw_lt v17)))
      have vc := va_at.kept vc (hk _ (hw_lt vc) (hw_AWn (hw_RX_0 Rx) (by decide) (hw_lt vc)))
      have vt := va_at.kept vt (hk _ (hw_lt vt) (hw_AWn (hw_RX_1 Rx) (by decide) (hw_lt vt)))
      have vn := va_at.kept vn (hk _ (hw_lt vn) (hw_AWn (hw_RX_2 Rx) (by decide) (hw_lt vn)))
      have v18 := va_at.kept v18 (hk _ (hw_lt v18) (hw_AWn (hw_RX_13 Rx) (by decide) (hw_lt v18)))
      have vro := va_at.kept vro (hk _ (hw_lt vro) (hw_AWn (hw_RM_0 Rm) (by decide) (hw_lt vro)))
      have vik := va_at.kept vik (hk _ (hw_lt vik) (hw_AWn (hw_RM_2 Rm) (by decide) (hw_lt vik)))
      refine lv_icmp_eq (tgt := 1188) hx hb dL_law_1060 (by decide) (fun c251 => ?_) (fun c251 => ?_)
      · refine lv_iinc (v := 6) (lv' := [(3, .int 6), (2, .ref mo), (1, .ref x), (0, .ref b)]) hx hb dL_law_1188 hl (k := 0) rfl (by rfl) (by decide) rfl (fun ls hl => ?_)
        refine lv_goto (tgt := 18) hx hb dL_law_1191 (by decide) ?_
        refine lv_iload_n hx hb dL_law_18 rfl (lv_at hl 0 rfl) ?_
        refine lv_aload_n hx hb dL_law_19 rfl (lv_at hl 3 rfl) ?_
        refine va_slen hx hb hX hbl hbA hS dL_law_20 ?_
        refine lv_bipush (v := 6) hx hb dL_law_21 (by decide) ?_
        refine lv_isub hx hb dL_law_23 ?_
        refine lv_topi (fun x252 e253 => ?_)
        have t254 : x252.toInt = (Int32.ofNat L).toInt - 6 := by rw [e253]; exact hw_sub rfl rfl (by omega) (by omega)
        refine lv_icmp_gt (tgt := 1194) hx hb dL_law_24 (by decide) (fun c255 => ?_) (fun c255 => ?_)
        · have b256 : x252.toInt < 6 := hw_ilt c255
          refine lv_iconst (v := 1) hx hb dL_law_1194 (by decide) ?_
          have hfg := hw_hfg hG0 (by decide) hS.2.2
          refine va_forget hfg ?_
          refine W.widen (k := 600000) (n := 7302250) (by decide) (by decide) ?_
          exact lw_ret hx hb hr hlocks dL_law_1195
        · have b257 : 6 ≤ x252.toInt := hw_inlt c255
          exfalso; omega
      · exact absurd c251 (by decide)
    · have q247i := hw_ieq q247
      have hRK := hw_Racks.kept hRK (fun q9 h9 l9 => hk q9 l9 (hw_AWn h9 (by decide) l9))
      have v17 := va_at.kept v17 (hk _ (hw_lt v17) (hw_AWn gx (by decide) (hw_lt v17)))
      have vc := va_at.kept vc (hk _ (hw_lt vc) (hw_AWn (hw_RX_0 Rx) (by decide) (hw_lt vc)))
      have vt := va_at.kept vt (hk _ (hw_lt vt) (hw_AWn (hw_RX_1 Rx) (by decide) (hw_lt vt)))
      have vn := va_at.kept vn (hk _ (hw_lt vn) (hw_AWn (hw_RX_2 Rx) (by decide) (hw_lt vn)))
      have v18 := va_at.kept v18 (hk _ (hw_lt v18) (hw_AWn (hw_RX_13 Rx) (by decide) (hw_lt v18)))
      have vro := va_at.kept vro (hk _ (hw_lt vro) (hw_AWn (hw_RM_0 Rm) (by decide) (hw_lt vro)))
      have vik := va_at.kept vik (hk _ (hw_lt vik) (hw_AWn (hw_RM_2 Rm) (by decide) (hw_lt vik)))
      refine lv_icmp_eq (tgt := 1188) hx hb dL_law_1060 (by decide) (fun c258 => ?_) (fun c258 => ?_)
      · have b259 : (-13) = x237.toInt := hw_ieq c258
        refine lv_iinc (v := 6) (lv' := [(3, .int 6), (2, .ref mo), (1, .ref x), (0, .ref b)]) hx hb dL_law_1188 hl (k := 0) rfl (by rfl) (by decide) rfl (fun ls hl => ?_)
        refine lv_goto (tgt := 18) hx hb dL_law_1191 (by decide) ?_
        refine lv_iload_n hx hb dL_law_18 rfl (lv_at hl 0 rfl) ?_
        refine lv_aload_n hx hb dL_law_19 rfl (lv_at hl 3 rfl) ?_
        refine va_slen hx hb hX hbl hbA hS dL_law_20 ?_
        refine lv_bipush (v := 6) hx hb dL_law_21 (by decide) ?_
        refine lv_isub hx hb dL_law_23 ?_
        refine lv_topi (fun x260 e261 => ?_)
        have t262 : x260.toInt = (Int32.ofNat L).toInt - 6 := by rw [e261]; exact hw_sub rfl rfl (by omega) (by omega)
        refine lv_icmp_gt (tgt := 1194) hx hb dL_law_24 (by decide) (fun c263 => ?_) (fun c263 => ?_)
        · have b264 : x260.toInt < 6 := hw_ilt c263
          refine lv_iconst (v := 1) hx hb dL_law_1194 (by decide) ?_
          have hfg := hw_hfg hG0 (by decide) hS.2.2
          refine va_forget hfg ?_
          refine W.widen (k := 600000) (n := 7302250) (by decide) (by decide) ?_
          exact lw_ret hx hb hr hlocks dL_law_1195
        · have b265 : 6 ≤ x260.toInt := hw_inlt c263
          exfalso; omega
      · have b266 : (-13) ≠ x237.toInt := hw_ine c258
        exfalso
        first | omega | contradiction | (subst_vars; omega)
  · have q34i := hw_ieq q34
    have vc := va_at.kept vc (hk _ (hw_lt vc) (hw_AWn (hw_RX_0 Rx) (by decide) (hw_lt vc)))
    have vt := va_at.kept vt (hk _ (hw_lt vt) (hw_AWn (hw_RX_1 Rx) (by decide) (hw_lt vt)))
    have vn := va_at.kept vn (hk _ (hw_lt vn) (hw_AWn (hw_RX_2 Rx) (by decide) (hw_lt vn)))
    have vm := va_at.kept vm (hk _ (hw_lt vm) (hw_AWn gm (by decide) (hw_lt vm)))
    have vro := va_at.kept vro (hk _ (hw_lt vro) (hw_AWn (hw_RM_0 Rm) (by decide) (hw_lt vro)))
    have vik := va_at.kept vik (hk _ (hw_lt vik) (hw_AWn (hw_RM_2 Rm) (by decide) (hw_lt vik)))
    have vla := va_at.kept vla (hk _ (hw_lt vla) (hw_AWn (hw_RM_41 Rm) (by decide) (hw_lt vla)))
    have vsz := va_at.kept vsz (hk _ (hw_lt vsz) (hw_AWn (hw_RM_42 Rm) (by decide) (hw_lt vsz)))
    refine lv_aload_n hx hb dL_law_1031 rfl (lv_at hl 1 rfl) ?_
    refine lv_aload_n hx hb dL_law_1032 rfl (lv_at hl 3 rfl) ?_
    refine lv_iload_n hx hb dL_law_1033 rfl (lv_at hl 0 rfl) ?_
    refine lv_iconst (v := 1) hx hb dL_law_1034 (by decide) ?_
    refine lv_iadd hx hb dL_law_1035 ?_
    refine W.eq (g2 := F0 m 1036 ls [.int 1, .ref b, .ref mo, .int x25]) rfl ?_
    refine va_sld hx hb hX hbl hbA hS (hw_in (x := 1) (by decide) (by have h9 : (1 : Int32).toInt = 1 := rfl; omega)) dL_law_1036 ?_
    refine W.eq (g2 := F0 m 1037 ls [.int (xs 1), .ref mo, .int x25]) rfl ?_
    refine lv_aload_n hx hb dL_law_1037 rfl (lv_at hl 3 rfl) ?_
    refine lv_iload_n hx hb dL_law_1038 rfl (lv_at hl 0 rfl) ?_
    refine lv_iconst (v := 2) hx hb dL_law_1039 (by decide) ?_
    refine lv_iadd hx hb dL_law_1040 ?_
    refine W.eq (g2 := F0 m 1041 ls [.int 2, .ref b, .int (xs 1), .ref mo, .int x25]) rfl ?_
    refine va_sld hx hb hX hbl hbA hS (hw_in (x := 2) (by decide) (by have h9 : (2 : Int32).toInt = 2 := rfl; omega)) dL_law_1041 ?_
    refine W.eq (g2 := F0 m 1042 ls [.int (xs 2), .int (xs 1), .ref mo, .int x25]) rfl ?_
    refine lv_aload_n hx hb dL_law_1042 rfl (lv_at hl 3 rfl) ?_
    refine lv_iload_n hx hb dL_law_1043 rfl (lv_at hl 0 rfl) ?_
    refine lv_iconst (v := 3) hx hb dL_law_1044 (by decide) ?_
    refine lv_iadd hx hb dL_law_1045 ?_
    refine W.eq (g2 := F0 m 1046 ls [.int 3, .ref b, .int (xs 2), .int (xs 1), .ref mo, .int x25]) rfl ?_
    refine va_sld hx hb hX hbl hbA hS (hw_in (x := 3) (by decide) (by have h9 : (3 : Int32).toInt = 3 := rfl; omega)) dL_law_1046 ?_
    refine W.eq (g2 := F0 m 1047 ls [.int (xs 3), .int (xs 2), .int (xs 1), .ref mo, .int x25]) rfl ?_
    refine lv_aload_n hx hb dL_law_1047 rfl (lv_at hl 3 rfl) ?_
    refine lv_iload_n hx hb dL_law_1048 rfl (lv_at hl 0 rfl) ?_
    refine lv_iconst (v := 4) hx hb dL_law_1049 (by decide) ?_
    refine lv_iadd hx hb dL_law_1050 ?_
    refine W.eq (g2 := F0 m 1051 ls [.int 4, .ref b, .int (xs 3), .int (xs 2), .int (xs 1), .ref mo, .int x25]) rfl ?_
    refine va_sld hx hb hX hbl hbA hS (hw_in (x := 4) (by decide) (by have h9 : (4 : Int32).toInt = 4 := rfl; omega)) dL_law_1051 ?_
    refine W.eq (g2 := F0 m 1052 ls [.int (xs 4), .int (xs 3), .int (xs 2), .int (xs 1), .ref mo, .int x25]) rfl ?_
    refine lv_aload_n hx hb dL_law_1052 rfl (lv_at hl 3 rfl) ?_
    refine lv_iload_n hx hb dL_law_1053 rfl (lv_at hl 0 rfl) ?_
    refine lv_iconst (v := 5) hx hb dL_law_1054 (by decide) ?_
    refine lv_iadd hx hb dL_law_1055 ?_
    refine W.eq (g2 := F0 m 1056 ls [.int 5, .ref b, .int (xs 4), .int (xs 3), .int (xs 2), .int (xs 1), .ref mo, .int x25]) rfl ?_
    refine va_sld hx hb hX hbl hbA hS (hw_in (x := 5) (by decide) (by have h9 : (5 : Int32).toInt = 5 := rfl; omega)) dL_law_1056 ?_
    refine W.eq (g2 := F0 m 1057 ls [.int (xs 5), .int (xs 4), .int (xs 3), .int (xs 2), .int (xs 1), .ref mo, .int x25]) rfl ?_
    refine hw_cM0 (va_runV (As := [.int (xs 1), .int (xs 2), .int (xs 3), .int (xs 4), .int (xs 5)]) (rest := [.int x25]) ⟨hx, hb, hml, hown, hts⟩ (k_X12_copy l D G1 mo (xs 1) (xs 2) (xs 3) (xs 4) (xs 5) _ rm 0 0 0 0 60 0 0 0 0 0 0 0 0 0 fla fsz gm Rm ⟨by first | decide | omega, by first | decide | omega⟩ ⟨by first | decide | omega, by first | decide | omega⟩ ⟨by first | decide | omega, by first | decide | omega⟩ ⟨by first | decide | omega, by first | decide | omega⟩ ⟨by first | decide | omega, by first | decide | omega⟩ ⟨by first | decide | omega, by first | decide | omega⟩ ⟨by first | decide | omega, by first | decide | omega⟩ ⟨by first | decide | omega, by first | decide | omega⟩ ⟨by first | decide | omega, by first | decide | omega⟩ ⟨by first | decide | omega, by first | decide | omega⟩ ⟨by first | decide | omega, by first | decide | omega⟩ ⟨by first | decide | omega, by first | decide | omega⟩ qsz) (cwV 5 hts gL_law_X12_copy rfl rfl rfl (by decide +kernel) ⟨Nat.le_of_ble_eq_true rfl, Nat.le_of_ble_eq_true rfl⟩) (hw_pV (hw_rc (q := (RX12, TX12, 45)) hK vm rfl) hH hK hST hS (by decide) (hw_hG hGe1) ⟨vm, vla, vsz⟩) rfl rfl hl.1 rfl (lv_room (Nat.le_of_ble_eq_true rfl)) dL_law_1057 ⟨Nat.le_of_ble_eq_true rfl, Nat.le_of_ble_eq_true rfl⟩) hS (hw_AWsub (by decide) hGe1 hS.1) (fun v H locs hp hz hk hS => ?_)
    have l267 : (60 : Int32).toInt = 60 := rfl
    rcases hp with ⟨rfl, hH, v268, v269, v270, q271⟩ | ⟨rfl, hH, v272, v273, v274, q275, q276, q277⟩ | ⟨rfl, hH, v278, v279, v280, q281, q282, q283, q284, q285⟩ | ⟨rfl, hH, v286, v287, v288, q289, q290, q291, q292, q293, q294⟩ | ⟨x295, rfl, hH, v296, v297, v298, q299, q300, q301, q302, q303, q304, q305⟩
    · have hRK := hw_Racks.kept hRK (fun q9 h9 l9 => hk q9 l9 (hw_AWn h9 (by decide) l9))
      have v26 := va_at.kept v26 (hk _ (hw_lt v26) (hw_AWn gx (by decide) (hw_lt v26)))
      have vc := va_at.kept vc (hk _ (hw_lt vc) (hw_AWn (hw_RX_0 Rx) (by decide) (hw_lt vc)))
      have vt := va_at.kept vt (hk _ (hw_lt vt) (hw_AWn (hw_RX_1 Rx) (by decide) (hw_lt vt)))
      have vn := va_at.kept vn (hk _ (hw_lt vn) (hw_AWn (hw_RX_2 Rx) (by decide) (hw_lt vn)))
      have v27 := va_at.kept v27 (hk _ (hw_lt v27) (hw_AWn (hw_RX_13 Rx) (by decide) (hw_lt v27)))
      have vro := va_at.kept vro (hk _ (hw_lt vro) (hw_AWn (hw_RM_0 Rm) (by decide) (hw_lt vro)))
      have vik := va_at.kept vik (hk _ (hw_lt vik) (hw_AWn (hw_RM_2 Rm) (by decide) (hw_lt vik)))
      refine lv_icmp_eq (tgt := 1188) hx hb dL_law_1060 (by decide) (fun c306 => ?_) (fun c306 => ?_)
      · have b307 : x25.toInt = (-2) := hw_ieq c306
        refine lv_iinc (v := 6) (lv' := [(3, .int 6), (2, .ref mo), (1, .ref x), (0, .ref b)]) hx hb dL_law_1188 hl (k := 0) rfl (by rfl) (by decide) rfl (fun ls hl => ?_)
        refine lv_goto (tgt := 18) hx hb dL_law_1191 (by decide) ?_
        refine lv_iload_n hx hb dL_law_18 rfl (lv_at hl 0 rfl) ?_
        refine lv_aload_n hx hb dL_law_19 rfl (lv_at hl 3 rfl) ?_
        refine va_slen hx hb hX hbl hbA hS dL_law_20 ?_
        refine lv_bipush (v := 6) hx hb dL_law_21 (by decide) ?_
        refine lv_isub hx hb dL_law_23 ?_
        refine lv_topi (fun x308 e309 => ?_)
        have t310 : x308.toInt = (Int32.ofNat L).toInt - 6 := by rw [e309]; exact hw_sub rfl rfl (by omega) (by omega)
        refine lv_icmp_gt (tgt := 1194) hx hb dL_law_24 (by decide) (fun c311 => ?_) (fun c311 => ?_)
        · have b312 : x308.toInt < 6 := hw_ilt c311
          refine lv_iconst (v := 1) hx hb dL_law_1194 (by decide) ?_
          have hfg := hw_hfg hG0 (by decide) hS.2.2
          refine va_forget hfg ?_
          refine W.widen (k := 600000) (n := 7302250) (by decide) (by decide) ?_
          exact lw_ret hx hb hr hlocks dL_law_1195
        · have b313 : 6 ≤ x308.toInt := hw_inlt c311
          exfalso; omega
      · have b314 : x25.toInt ≠ (-2) := hw_ine c306
        exfalso
        first | omega | contradiction | (subst_vars; omega)
    · have hRK := hw_Racks.kept hRK (fun q9 h9 l9 => hk q9 l9 (hw_AWn h9 (by decide) l9))
      have v26 := va_at.kept v26 (hk _ (hw_lt v26) (hw_AWn gx (by decide) (hw_lt v26)))
      have vc := va_at.kept vc (hk _ (hw_lt vc) (hw_AWn (hw_RX_0 Rx) (by decide) (hw_lt vc)))
      have vt := va_at.kept vt (hk _ (hw_lt vt) (hw_AWn (hw_RX_1 Rx) (by decide) (hw_lt vt)))
      have vn := va_at.kept vn (hk _ (hw_lt vn) (hw_AWn (hw_RX_2 Rx) (by decide) (hw_lt vn)))
      have v27 := va_at.kept v27 (hk _ (hw_lt v27) (hw_AWn (hw_RX_13 Rx) (by decide) (hw_lt v27)))
      have vro := va_at.kept vro (hk _ (hw_lt vro) (hw_AWn (hw_RM_0 Rm) (by decide) (hw_lt vro)))
      have vik := va_at.kept vik (hk _ (hw_lt vik) (hw_AWn (hw_RM_2 Rm) (by decide) (hw_lt vik)))
      refine lv_icmp_eq (tgt := 1188) hx hb dL_law_1060 (by decide) (fun c315 => ?_) (fun c315 => ?_)
      · have b316 : x25.toInt = (-11) := hw_ieq c315
        refine lv_iinc (v := 6) (lv' := [(3, .int 6), (2, .ref mo), (1, .ref x), (0, .ref b)]) hx hb dL_law_1188 hl (k := 0) rfl (by rfl) (by decide) rfl (fun ls hl => ?_)
        refine lv_goto (tgt := 18) hx hb dL_law_1191 (by decide) ?_
        refine lv_iload_n hx hb dL_law_18 rfl (lv_at hl 0 rfl) ?_
        refine lv_aload_n hx hb dL_law_19 rfl (lv_at hl 3 rfl) ?_
        refine va_slen hx hb hX hbl hbA hS dL_law_20 ?_
        refine lv_bipush (v := 6) hx hb dL_law_21 (by decide) ?_
        refine lv_isub hx hb dL_law_23 ?_
        refine lv_topi (fun x317 e318 => ?_)
        have t319 : x317.toInt = (Int32.ofNat L).toInt - 6 := by rw [e318]; exact hw_sub rfl rfl (by omega) (by omega)
        refine lv_icmp_gt (tgt := 1194) hx hb dL_law_24 (by decide) (fun c320 => ?_) (fun c320 => ?_)
        · have b321 : x317.toInt < 6 := hw_ilt c320
          refine lv_iconst (v := 1) hx hb dL_law_1194 (by decide) ?_
          have hfg := hw_hfg hG0 (by decide) hS.2.2
          refine va_forget hfg ?_
          refine W.widen (k := 600000) (n := 7302250) (by decide) (by decide) ?_
          exact lw_ret hx hb hr hlocks dL_law_1195
        · have b322 : 6 ≤ x317.toInt := hw_inlt c320
          exfalso; omega
      · have b323 : x25.toInt ≠ (-11) := hw_ine c315
        exfalso
        first | omega | contradiction | (subst_vars; omega)
    · have hRK := hw_Racks.kept hRK (fun q9 h9 l9 => hk q9 l9 (hw_AWn h9 (by decide) l9))
      have v26 := va_at.kept v26 (hk _ (hw_lt v26) (hw_AWn gx (by decide) (hw_lt v26)))
      have vc := va_at.kept vc (hk _ (hw_lt vc) (hw_AWn (hw_RX_0 Rx) (by decide) (hw_lt vc)))
      have vt := va_at.kept vt (hk _ (hw_lt vt) (hw_AWn (hw_RX_1 Rx) (by decide) (hw_lt vt)))
      have vn := va_at.kept vn (hk _ (hw_lt vn) (hw_AWn (hw_RX_2 Rx) (by decide) (hw_lt vn)))
      have v27 := va_at.kept v27 (hk _ (hw_lt v27) (hw_AWn (hw_RX_13 Rx) (by decide) (hw_lt v27)))
      have vro := va_at.kept vro (hk _ (hw_lt vro) (hw_AWn (hw_RM_0 Rm) (by decide) (hw_lt vro)))
      have vik := va_at.kept vik (hk _ (hw_lt vik) (hw_AWn (hw_RM_2 Rm) (by decide) (hw_lt vik)))
      refine lv_icmp_eq (tgt := 1188) hx hb dL_law_1060 (by decide) (fun c324 => ?_) (fun c324 => ?_)
      · have b325 : x25.toInt = (-15) := hw_ieq c324
        refine lv_iinc (v := 6) (lv' := [(3, .int 6), (2, .ref mo), (1, .ref x), (0, .ref b)]) hx hb dL_law_1188 hl (k := 0) rfl (by rfl) (by decide) rfl (fun ls hl => ?_)
        refine lv_goto (tgt := 18) hx hb dL_law_1191 (by decide) ?_
        refine lv_iload_n hx hb dL_law_18 rfl (lv_at hl 0 rfl) ?_
        refine lv_aload_n hx hb dL_law_19 rfl (lv_at hl 3 rfl) ?_
        refine va_slen hx hb hX hbl hbA hS dL_law_20 ?_
        refine lv_bipush (v := 6) hx hb dL_law_21 (by decide) ?_
        refine lv_isub hx hb dL_law_23 ?_
        refine lv_topi (fun x326 e327 => ?_)
        have t328 : x326.toInt = (Int32.ofNat L).toInt - 6 := by rw [e327]; exact hw_sub rfl rfl (by omega) (by omega)
        refine lv_icmp_gt (tgt := 1194) hx hb dL_law_24 (by decide) (fun c329 => ?_) (fun c329 => ?_)
        · have b330 : x326.toInt < 6 := hw_ilt c329
          refine lv_iconst (v := 1) hx hb dL_law_1194 (by decide) ?_
          have hfg := hw_hfg hG0 (by decide) hS.2.2
          refine va_forget hfg ?_
          refine W.widen (k := 600000) (n := 7302250) (by decide) (by decide) ?_
          exact lw_ret hx hb hr hlocks dL_law_1195
        · have b331 : 6 ≤ x326.toInt := hw_inlt c329
          exfalso; omega
      · have b332 : x25.toInt ≠ (-15) := hw_ine c324
        exfalso
        first | omega | contradiction | (subst_vars; omega)
    · have hRK := hw_Racks.kept hRK (fun q9 h9 l9 => hk q9 l9 (hw_AWn h9 (by decide) l9))
      have v26 := va_at.kept v26 (hk _ (hw_lt v26) (hw_AWn gx (by decide) (hw_lt v26)))
      have vc := va_at.kept vc (hk _ (hw_lt vc) (hw_AWn (hw_RX_0 Rx) (by decide) (hw_lt vc)))
      have vt := va_at.kept vt (hk _ (hw_lt vt) (hw_AWn (hw_RX_1 Rx) (by decide) (hw_lt vt)))
      have vn := va_at.kept vn (hk _ (hw_lt vn) (hw_AWn (hw_RX_2 Rx) (by decide) (hw_lt vn)))
      have v27 := va_at.kept v27 (hk _ (hw_lt v27) (hw_AWn (hw_RX_13 Rx) (by decide) (hw_lt v27)))
      have vro := va_at.kept vro (hk _ (hw_lt vro) (hw_AWn (hw_RM_0 Rm) (by decide) (hw_lt vro)))
      have vik := va_at.kept vik (hk _ (hw_lt vik) (hw_AWn (hw_RM_2 Rm) (by decide) (hw_lt vik)))
      refine lv_icmp_eq (tgt := 1188) hx hb dL_law_1060 (by decide) (fun c333 => ?_) (fun c333 => ?_)
      · have b334 : x25.toInt = (-13) := hw_ieq c333
        refine lv_iinc (v := 6) (lv' := [(3, .int 6), (2, .ref mo), (1, .ref x), (0, .ref b)]) hx hb dL_law_1188 hl (k := 0) rfl (by rfl) (by decide) rfl (fun ls hl => ?_)
        refine lv_goto (tgt := 18) hx hb dL_law_1191 (by decide) ?_
        refine lv_iload_n hx hb dL_law_18 rfl (lv_at hl 0 rfl) ?_
        refine lv_aload_n hx hb dL_law_19 rfl (lv_at hl 3 rfl) ?_
        refine va_slen hx hb hX hbl hbA hS dL_law_20 ?_
        refine lv_bipush (v := 6) hx hb dL_law_21 (by decide) ?_
        refine lv_isub hx hb dL_law_23 ?_
        refine lv_topi (fun x335 e336 => ?_)
        have t337 : x335.toInt = (Int32.ofNat L).toInt - 6 := by rw [e336]; exact hw_sub rfl rfl (by omega) (by omega)
        refine lv_icmp_gt (tgt := 1194) hx hb dL_law_24 (by decide) (fun c338 => ?_) (fun c338 => ?_)
        · have b339 : x335.toInt < 6 := hw_ilt c338
          refine lv_iconst (v := 1) hx hb dL_law_1194 (by decide) ?_
          have hfg := hw_hfg hG0 (by decide) hS.2.2
          refine va_forget hfg ?_
          refine W.widen (k := 600000) (n := 7302250) (by decide) (by decide) ?_
          exact lw_ret hx hb hr hlocks dL_law_1195
        · have b340 : 6 ≤ x335.toInt := hw_inlt c338
          exfalso; omega
      · have b341 : x25.toInt ≠ (-13) := hw_ine c333
        exfalso
        first | omega | contradiction | (subst_vars; omega)
    · have q305i := hw_ieq q305
      have hRK := hw_Racks.kept hRK (fun q9 h9 l9 => hk q9 l9 (hw_AWn h9 (by decide) l9))
      have v26 := va_at.kept v26 (hk _ (hw_lt v26) (hw_AWn gx (by decide) (hw_lt v26)))
      have vc := va_at.kept vc (hk _ (hw_lt vc) (hw_AWn (hw_RX_0 Rx) (by decide) (hw_lt vc)))
      have vt := va_at.kept vt (hk _ (hw_lt vt) (hw_AWn (hw_RX_1 Rx) (by decide) (hw_lt vt)))
      have vn := va_at.kept vn (hk _ (hw_lt vn) (hw_AWn (hw_RX_2 Rx) (by decide) (hw_lt vn)))
      have v27 := va_at.kept v27 (hk _ (hw_lt v27) (hw_AWn (hw_RX_13 Rx) (by decide) (hw_lt v27)))
      have vro := va_at.kept vro (hk _ (hw_lt vro) (hw_AWn (hw_RM_0 Rm) (by decide) (hw_lt vro)))
      have vik := va_at.kept vik (hk _ (hw_lt vik) (hw_AWn (hw_RM_2 Rm) (by decide) (hw_lt vik)))
      refine lv_icmp_eq (tgt := 1188) hx hb dL_law_1060 (by decide) (fun c342 => ?_) (fun c342 => ?_)
      · have b343 : x25.toInt = x295.toInt := hw_ieq c342
        refine lv_iinc (v := 6) (lv' := [(3, .int 6), (2, .ref mo), (1, .ref x), (0, .ref b)]) hx hb dL_law_1188 hl (k := 0) rfl (by rfl) (by decide) rfl (fun ls hl => ?_)
        refine lv_goto (tgt := 18) hx hb dL_law_1191 (by decide) ?_
        refine lv_iload_n hx hb dL_law_18 rfl (lv_at hl 0 rfl) ?_
        refine lv_aload_n hx hb dL_law_19 rfl (lv_at hl 3 rfl) ?_
        refine va_slen hx hb hX hbl hbA hS dL_law_20 ?_
        refine lv_bipush (v := 6) hx hb dL_law_21 (by decide) ?_
        refine lv_isub hx hb dL_law_23 ?_
        refine lv_topi (fun x344 e345 => ?_)
        have t346 : x344.toInt = (Int32.ofNat L).toInt - 6 := by rw [e345]; exact hw_sub rfl rfl (by omega) (by omega)
        refine lv_icmp_gt (tgt := 1194) hx hb dL_law_24 (by decide) (fun c347 => ?_) (fun c347 => ?_)
        · have b348 : x344.toInt < 6 := hw_ilt c347
          refine lv_iconst (v := 1) hx hb dL_law_1194 (by decide) ?_
          have hfg := hw_hfg hG0 (by decide) hS.2.2
          refine va_forget hfg ?_
          refine W.widen (k := 600000) (n := 7302250) (by decide) (by decide) ?_
          exact lw_ret hx hb hr hlocks dL_law_1195
        · have b349 : 6 ≤ x344.toInt := hw_inlt c347
          exfalso; omega
      · have b350 : x25.toInt ≠ x295.toInt := hw_ine c342
        exfalso
        first | omega | contradiction | (subst_vars; omega)

set_option maxHeartbeats 40000000 in
set_option maxRecDepth 100000 in
theorem hw_case1065 {p : Program} {e : Env} {s : State} {m : MethodId} {below : List Frame} {meth : Method} {c : Code} (l : Launch) {b L : Nat} {xs : Nat → Int32} {D : hw_D} {G : Nat → Nat} {H : Heap} {locs : List Loc} {x mo : Nat} {ls : Array Slot} (hL : L ≤ 6) (hL6 : 6 ≤ L) (hx : p.tables.exec = Jvm.exec) (hb : c.code = code) (hr : meth.sig.returnType = ret) (hml : c.maxLocals = 4) (hown : s.vm.findClass R_law = some m.cls) (hts0 : ∀ w ∈ lw_tbl, w.before #[Value.ref b] s = true) (hts : ∀ w ∈ wsL_law, w.before #[Value.ref b] s = true) (hX : va_X b L xs s s.heap) (hbl : b < s.heap.size) (hlocks : meth.locks = false) (hG0 : G = fun _ => 0) (hK : va_K D.1 vwCl (hw_ty D.2.1) s) (hST : hw_ST D.2.2 G s.heap.size s) (hF : hw_F0 D G s H x mo) (hS : va_S (hw_AW G [1, 2, 3, 4, 5, 6, 7, 8, 9, 10, 11, 12, 13, 14, 15, 16, 17, 18, 19, 20, 21, 22, 23, 24, 25, 26, 27, 28, 29, 30, 31, 32, 40, 42, 44, 45, 46, 48, 49, 50, 51, 53, 55, 58, 59, 67, 68, 69, 70, 71, 72, 73, 74, 75, 76, 77, 78, 79, 80, 81, 82, 83, 84, 101, 102, 103, 104, 105, 106, 107, 108, 109, 127, 128, 129, 132] s.heap.size) s.heap H locs) (hl : lv_has ls 4 [(3, .int 0), (2, .ref mo), (1, .ref x), (0, .ref b)]) : W p l e room_1 s m #[Value.ref b] below meth c H locs 200 8000 (lw_Z below #[Value.ref b] s) (F0 m 1065 ls []) := by
  have hH0 : hw_HT D G s.heap := fun a h => absurd (by rw [hG0]) h
  have hbA : ¬ (hw_AW G [1, 2, 3, 4, 5, 6, 7, 8, 9, 10, 11, 12, 13, 14, 15, 16, 17, 18, 19, 20, 21, 22, 23, 24, 25, 26, 27, 28, 29, 30, 31, 32, 40, 42, 44, 45, 46, 48, 49, 50, 51, 53, 55, 58, 59, 67, 68, 69, 70, 71, 72, 73, 74, 75, 76, 77, 78, 79, 80, 81, 82, 83, 84, 101, 102, 103, 104, 105, 106, 107, 108, 109, 127, 128, 129, 132] s.heap.size) b := hw_AWn (k := 0) (by rw [hG0]) (by decide) hbl
  have hLi : (Int32.ofNat L).toInt = (L : Int) := nI_toInt (by omega)
  obtain ⟨G1, rx, rc, rt, rn, fq, rm, fro, fik, fla, fsz, hH, hGe1, wx, wm, gx, gm, Rx, vx, Rc, vc, Rt, vt, Rn, vn, vq, hRK, Rm, vm, vro, hro, vik, hik, vla, vsz, hfs⟩ := hF
  have hHs := hH0
  obtain ⟨la, hla⟩ : ∃ z : Nat → Int32, z = fun _ => -1 := ⟨_, rfl⟩
  obtain ⟨sz9, hsz9⟩ : ∃ z : Nat → Int32, z = fun _ => 0 := ⟨_, rfl⟩
  rw [← hla, ← hsz9] at hRK
  have qq := hRK.q
  have qsz : ∀ j, j < 4 → -1 ≤ (fsz j).toInt ∧ (fsz j).toInt ≤ 24 := fun j hj => by rw [hfs j hj]; decide
  have hro0 : (fro 0).toInt = 0 := by rw [hro]; rfl
  have hro1 : (fro 1).toInt = 0 := by rw [hro]; rfl
  have hro2 : (fro 2).toInt = 0 := by rw [hro]; rfl
  have hla1 : (la (xs 1).toNatClampNeg).toInt = -1 := by rw [hla]; rfl
  have hfs1 : 0 ≤ (xs 1).toInt ∧ (xs 1).toInt ≤ 3 → (fsz (xs 1).toNatClampNeg).toInt = -1 := fun h9 => by rw [hfs _ (hw_i4 h9)]; rfl
  have hla2 : (la (xs 2).toNatClampNeg).toInt = -1 := by rw [hla]; rfl
  have hfs2 : 0 ≤ (xs 2).toInt ∧ (xs 2).toInt ≤ 3 → (fsz (xs 2).toNatClampNeg).toInt = -1 := fun h9 => by rw [hfs _ (hw_i4 h9)]; rfl
  have hla3 : (la (xs 3).toNatClampNeg).toInt = -1 := by rw [hla]; rfl
  have hfs3 : 0 ≤ (xs 3).toInt ∧ (xs 3).toInt ≤ 3 → (fsz (xs 3).toNatClampNeg).toInt = -1 := fun h9 => by rw [hfs _ (hw_i4 h9)]; rfl
  have hik1 : (fik (xs 1).toNatClampNeg).toInt = 0 := by rw [hik]; rfl
  refine lv_aload_n hx hb dL_law_1065 rfl (lv_at hl 2 rfl) ?_
  refine lv_aload_n hx hb dL_law_1066 rfl (lv_at hl 3 rfl) ?_
  refine lv_iload_n hx hb dL_law_1067 rfl (lv_at hl 0 rfl) ?_
  refine lv_iconst (v := 1) hx hb dL_law_1068 (by decide) ?_
  refine lv_iadd hx hb dL_law_1069 ?_
  refine W.eq (g2 := F0 m 1070 ls [.int 1, .ref b, .ref x]) rfl ?_
  refine va_sld hx hb hX hbl hbA hS (hw_in (x := 1) (by decide) (by have h9 : (1 : Int32).toInt = 1 := rfl; omega)) dL_law_1070 ?_
  refine W.eq (g2 := F0 m 1071 ls [.int (xs 1), .ref x]) rfl ?_
  refine hw_cM0 (va_runV (As := [.int (xs 1)]) (rest := []) ⟨hx, hb, hml, hown, hts⟩ (k_X11_drop l D G1 x (xs 1) _ la sz9 rx 0 0 0 0 fq gx Rx ⟨by first | decide | omega, by first | decide | omega⟩ qq) (cwV 1 hts gL_law_X11_drop rfl rfl rfl (by decide +kernel) ⟨Nat.le_of_ble_eq_true rfl, Nat.le_of_ble_eq_true rfl⟩) (hw_pV (hw_rc (q := (RX11, TX11, 14)) hK vx rfl) hH hK hST hS (by decide) (hw_hG hGe1) ⟨vx, vq, hRK⟩) rfl rfl hl.1 rfl (lv_room (Nat.le_of_ble_eq_true rfl)) dL_law_1071 ⟨Nat.le_of_ble_eq_true rfl, Nat.le_of_ble_eq_true rfl⟩) hS (hw_AWsub (by decide) hGe1 hS.1) (fun v H locs hp hz hk hS => ?_)
  have l1 : (0 : Int32).toInt = 0 := rfl
  rcases hp with ⟨rfl, hH, hRK, v2, v3, q4⟩ | ⟨rfl, hH, hRK, v5, v6, q7, q8⟩ | ⟨x9, rfl, hH, hRK, v10, v11, q12, q13, q14⟩
  · have vc := va_at.kept vc (hk _ (hw_lt vc) (hw_AWn (hw_RX_0 Rx) (by decide) (hw_lt vc)))
    have vt := va_at.kept vt (hk _ (hw_lt vt) (hw_AWn (hw_RX_1 Rx) (by decide) (hw_lt vt)))
    have vn := va_at.kept vn (hk _ (hw_lt vn) (hw_AWn (hw_RX_2 Rx) (by decide) (hw_lt vn)))
    have vm := va_at.kept vm (hk _ (hw_lt vm) (hw_AWn gm (by decide) (hw_lt vm)))
    have vro := va_at.kept vro (hk _ (hw_lt vro) (hw_AWn (hw_RM_0 Rm) (by decide) (hw_lt vro)))
    have vik := va_at.kept vik (hk _ (hw_lt vik) (hw_AWn (hw_RM_2 Rm) (by decide) (hw_lt vik)))
    have vla := va_at.kept vla (hk _ (hw_lt vla) (hw_AWn (hw_RM_41 Rm) (by decide) (hw_lt vla)))
    have vsz := va_at.kept vsz (hk _ (hw_lt vsz) (hw_AWn (hw_RM_42 Rm) (by decide) (hw_lt vsz)))
    refine lv_aload_n hx hb dL_law_1074 rfl (lv_at hl 1 rfl) ?_
    refine lv_aload_n hx hb dL_law_1075 rfl (lv_at hl 3 rfl) ?_
    refine lv_iload_n hx hb dL_law_1076 rfl (lv_at hl 0 rfl) ?_
    refine lv_iconst (v := 1) hx hb dL_law_1077 (by decide) ?_
    refine lv_iadd hx hb dL_law_1078 ?_
    refine W.eq (g2 := F0 m 1079 ls [.int 1, .ref b, .ref mo, .int (-2)]) rfl ?_
    refine va_sld hx hb hX hbl hbA hS (hw_in (x := 1) (by decide) (by have h9 : (1 : Int32).toInt = 1 := rfl; omega)) dL_law_1079 ?_
    refine W.eq (g2 := F0 m 1080 ls [.int (xs 1), .ref mo, .int (-2)]) rfl ?_
    refine hw_cM0 (va_runV (As := [.int (xs 1)]) (rest := [.int (-2)]) ⟨hx, hb, hml, hown, hts⟩ (k_X12_drop l D G1 mo (xs 1) _ rm 0 0 0 0 60 0 0 0 0 0 0 0 0 0 fsz gm Rm ⟨by first | decide | omega, by first | decide | omega⟩ ⟨by first | decide | omega, by first | decide | omega⟩ ⟨by first | decide | omega, by first | decide | omega⟩ ⟨by first | decide | omega, by first | decide | omega⟩ ⟨by first | decide | omega, by first | decide | omega⟩ ⟨by first | decide | omega, by first | decide | omega⟩ ⟨by first | decide | omega, by first | decide | omega⟩ ⟨by first | decide | omega, by first | decide | omega⟩ ⟨by first | decide | omega, by first | decide | omega⟩ ⟨by first | decide | omega, by first | decide | omega⟩ ⟨by first | decide | omega, by first | decide | omega⟩ ⟨by first | decide | omega, by first | decide | omega⟩ qsz) (cwV 1 hts gL_law_X12_drop rfl rfl rfl (by decide +kernel) ⟨Nat.le_of_ble_eq_true rfl, Nat.le_of_ble_eq_true rfl⟩) (hw_pV (hw_rc (q := (RX12, TX12, 45)) hK vm rfl) hH hK hST hS (by decide) (hw_hG hGe1) ⟨vm, vsz⟩) rfl rfl hl.1 rfl (lv_room (Nat.le_of_ble_eq_true rfl)) dL_law_1080 ⟨Nat.le_of_ble_eq_true rfl, Nat.le_of_ble_eq_true rfl⟩) hS (hw_AWsub (by decide) hGe1 hS.1) (fun v H locs hp hz hk hS => ?_)
    have l15 : (60 : Int32).toInt = 60 := rfl
    rcases hp with ⟨f16, rfl, hH, v17, v18, q19, q20⟩ | ⟨f21, rfl, hH, v22, v23, q24, q25, q26⟩ | ⟨x27, f28, rfl, hH, v29, v30, q31, q32, q33, q34⟩
    · have hRK := hw_Racks.kept hRK (fun q9 h9 l9 => hk q9 l9 (hw_AWn h9 (by decide) l9))
      have v2 := va_at.kept v2 (hk _ (hw_lt v2) (hw_AWn gx (by decide) (hw_lt v2)))
      have vc := va_at.kept vc (hk _ (hw_lt vc) (hw_AWn (hw_RX_0 Rx) (by decide) (hw_lt vc)))
      have vt := va_at.kept vt (hk _ (hw_lt vt) (hw_AWn (hw_RX_1 Rx) (by decide) (hw_lt vt)))
      have vn := va_at.kept vn (hk _ (hw_lt vn) (hw_AWn (hw_RX_2 Rx) (by decide) (hw_lt vn)))
      have v3 := va_at.kept v3 (hk _ (hw_lt v3) (hw_AWn (hw_RX_13 Rx) (by decide) (hw_lt v3)))
      have vro := va_at.kept vro (hk _ (hw_lt vro) (hw_AWn (hw_RM_0 Rm) (by decide) (hw_lt vro)))
      have vik := va_at.kept vik (hk _ (hw_lt vik) (hw_AWn (hw_RM_2 Rm) (by decide) (hw_lt vik)))
      have vla := va_at.kept vla (hk _ (hw_lt vla) (hw_AWn (hw_RM_41 Rm) (by decide) (hw_lt vla)))
      refine lv_icmp_eq (tgt := 1188) hx hb dL_law_1083 (by decide) (fun c35 => ?_) (fun c35 => ?_)
      · refine lv_iinc (v := 6) (lv' := [(3, .int 6), (2, .ref mo), (1, .ref x), (0, .ref b)]) hx hb dL_law_1188 hl (k := 0) rfl (by rfl) (by decide) rfl (fun ls hl => ?_)
        refine lv_goto (tgt := 18) hx hb dL_law_1191 (by decide) ?_
        refine lv_iload_n hx hb dL_law_18 rfl (lv_at hl 0 rfl) ?_
        refine lv_aload_n hx hb dL_law_19 rfl (lv_at hl 3 rfl) ?_
        refine va_slen hx hb hX hbl hbA hS dL_law_20 ?_
        refine lv_bipush (v := 6) hx hb dL_law_21 (by decide) ?_
        refine lv_isub hx hb dL_law_23 ?_
        refine lv_topi (fun x36 e37 => ?_)
        have t38 : x36.toInt = (Int32.ofNat L).toInt - 6 := by rw [e37]; exact hw_sub rfl rfl (by omega) (by omega)
        refine lv_icmp_gt (tgt := 1194) hx hb dL_law_24 (by decide) (fun c39 => ?_) (fun c39 => ?_)
        · have b40 : x36.toInt < 6 := hw_ilt c39
          refine lv_iconst (v := 1) hx hb dL_law_1194 (by decide) ?_
          have hfg := hw_hfg hG0 (by decide) hS.2.2
          refine va_forget hfg ?_
          refine W.widen (k := 600000) (n := 7302250) (by decide) (by decide) ?_
          exact lw_ret hx hb hr hlocks dL_law_1195
        · have b41 : 6 ≤ x36.toInt := hw_inlt c39
          exfalso; omega
      · exact absurd c35 (by decide)
    · have hRK := hw_Racks.kept hRK (fun q9 h9 l9 => hk q9 l9 (hw_AWn h9 (by decide) l9))
      have v2 := va_at.kept v2 (hk _ (hw_lt v2) (hw_AWn gx (by decide) (hw_lt v2)))
      have vc := va_at.kept vc (hk _ (hw_lt vc) (hw_AWn (hw_RX_0 Rx) (by decide) (hw_lt vc)))
      have vt := va_at.kept vt (hk _ (hw_lt vt) (hw_AWn (hw_RX_1 Rx) (by decide) (hw_lt vt)))
      have vn := va_at.kept vn (hk _ (hw_lt vn) (hw_AWn (hw_RX_2 Rx) (by decide) (hw_lt vn)))
      have v3 := va_at.kept v3 (hk _ (hw_lt v3) (hw_AWn (hw_RX_13 Rx) (by decide) (hw_lt v3)))
      have vro := va_at.kept vro (hk _ (hw_lt vro) (hw_AWn (hw_RM_0 Rm) (by decide) (hw_lt vro)))
      have vik := va_at.kept vik (hk _ (hw_lt vik) (hw_AWn (hw_RM_2 Rm) (by decide) (hw_lt vik)))
      have vla := va_at.kept vla (hk _ (hw_lt vla) (hw_AWn (hw_RM_41 Rm) (by decide) (hw_lt vla)))
      refine lv_icmp_eq (tgt := 1188) hx hb dL_law_1083 (by decide) (fun c42 => ?_) (fun c42 => ?_)
      · exact absurd c42 (by decide)
      · exfalso
        first | omega | contradiction | (subst_vars; omega)
    · have q33i := hw_ieq q33
      have hRK := hw_Racks.kept hRK (fun q9 h9 l9 => hk q9 l9 (hw_AWn h9 (by decide) l9))
      have v2 := va_at.kept v2 (hk _ (hw_lt v2) (hw_AWn gx (by decide) (hw_lt v2)))
      have vc := va_at.kept vc (hk _ (hw_lt vc) (hw_AWn (hw_RX_0 Rx) (by decide) (hw_lt vc)))
      have vt := va_at.kept vt (hk _ (hw_lt vt) (hw_AWn (hw_RX_1 Rx) (by decide) (hw_lt vt)))
      have vn := va_at.kept vn (hk _ (hw_lt vn) (hw_AWn (hw_RX_2 Rx) (by decide) (hw_lt vn)))
      have v3 := va_at.kept v3 (hk _ (hw_lt v3) (hw_AWn (hw_RX_13 Rx) (by decide) (hw_lt v3)))
      have vro := va_at.kept vro (hk _ (hw_lt vro) (hw_AWn (hw_RM_0 Rm) (by decide) (hw_lt vro)))
      have vik := va_at.kept vik (hk _ (hw_lt vik) (hw_AWn (hw_RM_2 Rm) (by decide) (hw_lt vik)))
      have vla := va_at.kept vla (hk _ (hw_lt vla) (hw_AWn (hw_RM_41 Rm) (by decide) (hw_lt vla)))
      refine lv_icmp_eq (tgt := 1188) hx hb dL_law_1083 (by decide) (fun c43 => ?_) (fun c43 => ?_)
      · have b44 : (-2) = x27.toInt := hw_ieq c43
        refine lv_iinc (v := 6) (lv' := [(3, .int 6), (2, .ref mo), (1, .ref x), (0, .ref b)]) hx hb dL_law_1188 hl (k := 0) rfl (by rfl) (by decide) rfl (fun ls hl => ?_)
        refine lv_goto (tgt := 18) hx hb dL_law_1191 (by decide) ?_
        refine lv_iload_n hx hb dL_law_18 rfl (lv_at hl 0 rfl) ?_
        refine lv_aload_n hx hb dL_law_19 rfl (lv_at hl 3 rfl) ?_
        refine va_slen hx hb hX hbl hbA hS dL_law_20 ?_
        refine lv_bipush (v := 6) hx hb dL_law_21 (by decide) ?_
        refine lv_isub hx hb dL_law_23 ?_
        refine lv_topi (fun x45 e46 => ?_)
        have t47 : x45.toInt = (Int32.ofNat L).toInt - 6 := by rw [e46]; exact hw_sub rfl rfl (by omega) (by omega)
        refine lv_icmp_gt (tgt := 1194) hx hb dL_law_24 (by decide) (fun c48 => ?_) (fun c48 => ?_)
        · have b49 : x45.toInt < 6 := hw_ilt c48
          refine lv_iconst (v := 1) hx hb dL_law_1194 (by decide) ?_
          have hfg := hw_hfg hG0 (by decide) hS.2.2
          refine va_forget hfg ?_
          refine W.widen (k := 600000) (n := 7302250) (by decide) (by decide) ?_
          exact lw_ret hx hb hr hlocks dL_law_1195
        · have b50 : 6 ≤ x45.toInt := hw_inlt c48
          exfalso; omega
      · have b51 : (-2) ≠ x27.toInt := hw_ine c43
        exfalso
        first | omega | contradiction | (subst_vars; omega)
  · have vc := va_at.kept vc (hk _ (hw_lt vc) (hw_AWn (hw_RX_0 Rx) (by decide) (hw_lt vc)))
    have vt := va_at.kept vt (hk _ (hw_lt vt) (hw_AWn (hw_RX_1 Rx) (by decide) (hw_lt vt)))
    have vn := va_at.kept vn (hk _ (hw_lt vn) (hw_AWn (hw_RX_2 Rx) (by decide) (hw_lt vn)))
    have vm := va_at.kept vm (hk _ (hw_lt vm) (hw_AWn gm (by decide) (hw_lt vm)))
    have vro := va_at.kept vro (hk _ (hw_lt vro) (hw_AWn (hw_RM_0 Rm) (by decide) (hw_lt vro)))
    have vik := va_at.kept vik (hk _ (hw_lt vik) (hw_AWn (hw_RM_2 Rm) (by decide) (hw_lt vik)))
    have vla := va_at.kept vla (hk _ (hw_lt vla) (hw_AWn (hw_RM_41 Rm) (by decide) (hw_lt vla)))
    have vsz := va_at.kept vsz (hk _ (hw_lt vsz) (hw_AWn (hw_RM_42 Rm) (by decide) (hw_lt vsz)))
    refine lv_aload_n hx hb dL_law_1074 rfl (lv_at hl 1 rfl) ?_
    refine lv_aload_n hx hb dL_law_1075 rfl (lv_at hl 3 rfl) ?_
    refine lv_iload_n hx hb dL_law_1076 rfl (lv_at hl 0 rfl) ?_
    refine lv_iconst (v := 1) hx hb dL_law_1077 (by decide) ?_
    refine lv_iadd hx hb dL_law_1078 ?_
    refine W.eq (g2 := F0 m 1079 ls [.int 1, .ref b, .ref mo, .int (-11)]) rfl ?_
    refine va_sld hx hb hX hbl hbA hS (hw_in (x := 1) (by decide) (by have h9 : (1 : Int32).toInt = 1 := rfl; omega)) dL_law_1079 ?_
    refine W.eq (g2 := F0 m 1080 ls [.int (xs 1), .ref mo, .int (-11)]) rfl ?_
    refine hw_cM0 (va_runV (As := [.int (xs 1)]) (rest := [.int (-11)]) ⟨hx, hb, hml, hown, hts⟩ (k_X12_drop l D G1 mo (xs 1) _ rm 0 0 0 0 60 0 0 0 0 0 0 0 0 0 fsz gm Rm ⟨by first | decide | omega, by first | decide | omega⟩ ⟨by first | decide | omega, by first | decide | omega⟩ ⟨by first | decide | omega, by first | decide | omega⟩ ⟨by first | decide | omega, by first | decide | omega⟩ ⟨by first | decide | omega, by first | decide | omega⟩ ⟨by first | decide | omega, by first | decide | omega⟩ ⟨by first | decide | omega, by first | decide | omega⟩ ⟨by first | decide | omega, by first | decide | omega⟩ ⟨by first | decide | omega, by first | decide | omega⟩ ⟨by first | decide | omega, by first | decide | omega⟩ ⟨by first | decide | omega, by first | decide | omega⟩ ⟨by first | decide | omega, by first | decide | omega⟩ qsz) (cwV 1 hts gL_law_X12_drop rfl rfl rfl (by decide +kernel) ⟨Nat.le_of_ble_eq_true rfl, Nat.le_of_ble_eq_true rfl⟩) (hw_pV (hw_rc (q := (RX12, TX12, 45)) hK vm rfl) hH hK hST hS (by decide) (hw_hG hGe1) ⟨vm, vsz⟩) rfl rfl hl.1 rfl (lv_room (Nat.le_of_ble_eq_true rfl)) dL_law_1080 ⟨Nat.le_of_ble_eq_true rfl, Nat.le_of_ble_eq_true rfl⟩) hS (hw_AWsub (by decide) hGe1 hS.1) (fun v H locs hp hz hk hS => ?_)
    have l52 : (60 : Int32).toInt = 60 := rfl
    rcases hp with ⟨f53, rfl, hH, v54, v55, q56, q57⟩ | ⟨f58, rfl, hH, v59, v60, q61, q62, q63⟩ | ⟨x64, f65, rfl, hH, v66, v67, q68, q69, q70, q71⟩
    · have hRK := hw_Racks.kept hRK (fun q9 h9 l9 => hk q9 l9 (hw_AWn h9 (by decide) l9))
      have v5 := va_at.kept v5 (hk _ (hw_lt v5) (hw_AWn gx (by decide) (hw_lt v5)))
      have vc := va_at.kept vc (hk _ (hw_lt vc) (hw_AWn (hw_RX_0 Rx) (by decide) (hw_lt vc)))
      have vt := va_at.kept vt (hk _ (hw_lt vt) (hw_AWn (hw_RX_1 Rx) (by decide) (hw_lt vt)))
      have vn := va_at.kept vn (hk _ (hw_lt vn) (hw_AWn (hw_RX_2 Rx) (by decide) (hw_lt vn)))
      have v6 := va_at.kept v6 (hk _ (hw_lt v6) (hw_AWn (hw_RX_13 Rx) (by decide) (hw_lt v6)))
      have vro := va_at.kept vro (hk _ (hw_lt vro) (hw_AWn (hw_RM_0 Rm) (by decide) (hw_lt vro)))
      have vik := va_at.kept vik (hk _ (hw_lt vik) (hw_AWn (hw_RM_2 Rm) (by decide) (hw_lt vik)))
      have vla := va_at.kept vla (hk _ (hw_lt vla) (hw_AWn (hw_RM_41 Rm) (by decide) (hw_lt vla)))
      refine lv_icmp_eq (tgt := 1188) hx hb dL_law_1083 (by decide) (fun c72 => ?_) (fun c72 => ?_)
      · exact absurd c72 (by decide)
      · exfalso
        first | omega | contradiction | (subst_vars; omega)
    · have hRK := hw_Racks.kept hRK (fun q9 h9 l9 => hk q9 l9 (hw_AWn h9 (by decide) l9))
      have v5 := va_at.kept v5 (hk _ (hw_lt v5) (hw_AWn gx (by decide) (hw_lt v5)))
      have vc := va_at.kept vc (hk _ (hw_lt vc) (hw_AWn (hw_RX_0 Rx) (by decide) (hw_lt vc)))
      have vt := va_at.kept vt (hk _ (hw_lt vt) (hw_AWn (hw_RX_1 Rx) (by decide) (hw_lt vt)))
      have vn := va_at.kept vn (hk _ (hw_lt vn) (hw_AWn (hw_RX_2 Rx) (by decide) (hw_lt vn)))
      have v6 := va_at.kept v6 (hk _ (hw_lt v6) (hw_AWn (hw_RX_13 Rx) (by decide) (hw_lt v6)))
      have vro := va_at.kept vro (hk _ (hw_lt vro) (hw_AWn (hw_RM_0 Rm) (by decide) (hw_lt vro)))
      have vik := va_at.kept vik (hk _ (hw_lt vik) (hw_AWn (hw_RM_2 Rm) (by decide) (hw_lt vik)))
      have vla := va_at.kept vla (hk _ (hw_lt vla) (hw_AWn (hw_RM_41 Rm) (by decide) (hw_lt vla)))
      refine lv_icmp_eq (tgt := 1188) hx hb dL_law_1083 (by decide) (fun c73 => ?_) (fun c73 => ?_)
      · refine lv_iinc (v := 6) (lv' := [(3, .int 6), (2, .ref mo), (1, .ref x), (0, .ref b)]) hx hb dL_law_1188 hl (k := 0) rfl (by rfl) (by decide) rfl (fun ls hl => ?_)
        refine lv_goto (tgt := 18) hx hb dL_law_1191 (by decide) ?_
        refine lv_iload_n hx hb dL_law_18 rfl (lv_at hl 0 rfl) ?_
        refine lv_aload_n hx hb dL_law_19 rfl (lv_at hl 3 rfl) ?_
        refine va_slen hx hb hX hbl hbA hS dL_law_20 ?_
        refine lv_bipush (v := 6) hx hb dL_law_21 (by decide) ?_
        refine lv_isub hx hb dL_law_23 ?_
        refine lv_topi (fun x74 e75 => ?_)
        have t76 : x74.toInt = (Int32.ofNat L).toInt - 6 := by rw [e75]; exact hw_sub rfl rfl (by omega) (by omega)
        refine lv_icmp_gt (tgt := 1194) hx hb dL_law_24 (by decide) (fun c77 => ?_) (fun c77 => ?_)
        · have b78 : x74.toInt < 6 := hw_ilt c77
          refine lv_iconst (v := 1) hx hb dL_law_1194 (by decide) ?_
          have hfg := hw_hfg hG0 (by decide) hS.2.2
          refine va_forget hfg ?_
          refine W.widen (k := 600000) (n := 7302250) (by decide) (by decide) ?_
          exact lw_ret hx hb hr hlocks dL_law_1195
        · have b79 : 6 ≤ x74.toInt := hw_inlt c77
          exfalso; omega
      · exact absurd c73 (by decide)
    · have q70i := hw_ieq q70
      have hRK := hw_Racks.kept hRK (fun q9 h9 l9 => hk q9 l9 (hw_AWn h9 (by decide) l9))
      have v5 := va_at.kept v5 (hk _ (hw_lt v5) (hw_AWn gx (by decide) (hw_lt v5)))
      have vc := va_at.kept vc (hk _ (hw_lt vc) (hw_AWn (hw_RX_0 Rx) (by decide) (hw_lt vc)))
      have vt := va_at.kept vt (hk _ (hw_lt vt) (hw_AWn (hw_RX_1 Rx) (by decide) (hw_lt vt)))
      have vn := va_at.kept vn (hk _ (hw_lt vn) (hw_AWn (hw_RX_2 Rx) (by decide) (hw_lt vn)))
      have v6 := va_at.kept v6 (hk _ (hw_lt v6) (hw_AWn (hw_RX_13 Rx) (by decide) (hw_lt v6)))
      have vro := va_at.kept vro (hk _ (hw_lt vro) (hw_AWn (hw_RM_0 Rm) (by decide) (hw_lt vro)))
      have vik := va_at.kept vik (hk _ (hw_lt vik) (hw_AWn (hw_RM_2 Rm) (by decide) (hw_lt vik)))
      have vla := va_at.kept vla (hk _ (hw_lt vla) (hw_AWn (hw_RM_41 Rm) (by decide) (hw_lt vla)))
      refine lv_icmp_eq (tgt := 1188) hx hb dL_law_1083 (by decide) (fun c80 => ?_) (fun c80 => ?_)
      · have b81 : (-11) = x64.toInt := hw_ieq c80
        refine lv_iinc (v := 6) (lv' := [(3, .int 6), (2, .ref mo), (1, .ref x), (0, .ref b)]) hx hb dL_law_1188 hl (k := 0) rfl (by rfl) (by decide) rfl (fun ls hl => ?_)
        refine lv_goto (tgt := 18) hx hb dL_law_1191 (by decide) ?_
        refine lv_iload_n hx hb dL_law_18 rfl (lv_at hl 0 rfl) ?_
        refine lv_aload_n hx hb dL_law_19 rfl (lv_at hl 3 rfl) ?_
        refine va_slen hx hb hX hbl hbA hS dL_law_20 ?_
        refine lv_bipush (v := 6) hx hb dL_law_21 (by decide) ?_
        refine lv_isub hx hb dL_law_23 ?_
        refine lv_topi (fun x82 e83 => ?_)
        have t84 : x82.toInt = (Int32.ofNat L).toInt - 6 := by rw [e83]; exact hw_sub rfl rfl (by omega) (by omega)
        refine lv_icmp_gt (tgt := 1194) hx hb dL_law_24 (by decide) (fun c85 => ?_) (fun c85 => ?_)
        · have b86 : x82.toInt < 6 := hw_ilt c85
          refine lv_iconst (v := 1) hx hb dL_law_1194 (by decide) ?_
          have hfg := hw_hfg hG0 (by decide) hS.2.2
          refine va_forget hfg ?_
          refine W.widen (k := 600000) (n := 7302250) (by decide) (by decide) ?_
          exact lw_ret hx hb hr hlocks dL_law_1195
        · have b87 : 6 ≤ x82.toInt := hw_inlt c85
          exfalso; omega
      · have b88 : (-11) ≠ x64.toInt := hw_ine c80
        exfalso
        first | omega | contradiction | (subst_vars; omega)
  · have q14i := hw_ieq q14
    have vc := va_at.kept vc (hk _ (hw_lt vc) (hw_AWn (hw_RX_0 Rx) (by decide) (hw_lt vc)))
    have vt := va_at.kept vt (hk _ (hw_lt vt) (hw_AWn (hw_RX_1 Rx) (by decide) (hw_lt vt)))
    have vn := va_at.kept vn (hk _ (hw_lt vn) (hw_AWn (hw_RX_2 Rx) (by decide) (hw_lt vn)))
    have vm := va_at.kept vm (hk _ (hw_lt vm) (hw_AWn gm (by decide) (hw_lt vm)))
    have vro := va_at.kept vro (hk _ (hw_lt vro) (hw_AWn (hw_RM_0 Rm) (by decide) (hw_lt vro)))
    have vik := va_at.kept vik (hk _ (hw_lt vik) (hw_AWn (hw_RM_2 Rm) (by decide) (hw_lt vik)))
    have vla := va_at.kept vla (hk _ (hw_lt vla) (hw_AWn (hw_RM_41 Rm) (by decide) (hw_lt vla)))
    have vsz := va_at.kept vsz (hk _ (hw_lt vsz) (hw_AWn (hw_RM_42 Rm) (by decide) (hw_lt vsz)))
    refine lv_aload_n hx hb dL_law_1074 rfl (lv_at hl 1 rfl) ?_
    refine lv_aload_n hx hb dL_law_1075 rfl (lv_at hl 3 rfl) ?_
    refine lv_iload_n hx hb dL_law_1076 rfl (lv_at hl 0 rfl) ?_
    refine lv_iconst (v := 1) hx hb dL_law_1077 (by decide) ?_
    refine lv_iadd hx hb dL_law_1078 ?_
    refine W.eq (g2 := F0 m 1079 ls [.int 1, .ref b, .ref mo, .int x9]) rfl ?_
    refine va_sld hx hb hX hbl hbA hS (hw_in (x := 1) (by decide) (by have h9 : (1 : Int32).toInt = 1 := rfl; omega)) dL_law_1079 ?_
    refine W.eq (g2 := F0 m 1080 ls [.int (xs 1), .ref mo, .int x9]) rfl ?_
    refine hw_cM0 (va_runV (As := [.int (xs 1)]) (rest := [.int x9]) ⟨hx, hb, hml, hown, hts⟩ (k_X12_drop l D G1 mo (xs 1) _ rm 0 0 0 0 60 0 0 0 0 0 0 0 0 0 fsz gm Rm ⟨by first | decide | omega, by first | decide | omega⟩ ⟨by first | decide | omega, by first | decide | omega⟩ ⟨by first | decide | omega, by first | decide | omega⟩ ⟨by first | decide | omega, by first | decide | omega⟩ ⟨by first | decide | omega, by first | decide | omega⟩ ⟨by first | decide | omega, by first | decide | omega⟩ ⟨by first | decide | omega, by first | decide | omega⟩ ⟨by first | decide | omega, by first | decide | omega⟩ ⟨by first | decide | omega, by first | decide | omega⟩ ⟨by first | decide | omega, by first | decide | omega⟩ ⟨by first | decide | omega, by first | decide | omega⟩ ⟨by first | decide | omega, by first | decide | omega⟩ qsz) (cwV 1 hts gL_law_X12_drop rfl rfl rfl (by decide +kernel) ⟨Nat.le_of_ble_eq_true rfl, Nat.le_of_ble_eq_true rfl⟩) (hw_pV (hw_rc (q := (RX12, TX12, 45)) hK vm rfl) hH hK hST hS (by decide) (hw_hG hGe1) ⟨vm, vsz⟩) rfl rfl hl.1 rfl (lv_room (Nat.le_of_ble_eq_true rfl)) dL_law_1080 ⟨Nat.le_of_ble_eq_true rfl, Nat.le_of_ble_eq_true rfl⟩) hS (hw_AWsub (by decide) hGe1 hS.1) (fun v H locs hp hz hk hS => ?_)
    have l89 : (60 : Int32).toInt = 60 := rfl
    rcases hp with ⟨f90, rfl, hH, v91, v92, q93, q94⟩ | ⟨f95, rfl, hH, v96, v97, q98, q99, q100⟩ | ⟨x101, f102, rfl, hH, v103, v104, q105, q106, q107, q108⟩
    · have hRK := hw_Racks.kept hRK (fun q9 h9 l9 => hk q9 l9 (hw_AWn h9 (by decide) l9))
      have v10 := va_at.kept v10 (hk _ (hw_lt v10) (hw_AWn gx (by decide) (hw_lt v10)))
      have vc := va_at.kept vc (hk _ (hw_lt vc) (hw_AWn (hw_RX_0 Rx) (by decide) (hw_lt vc)))
      have vt := va_at.kept vt (hk _ (hw_lt vt) (hw_AWn (hw_RX_1 Rx) (by decide) (hw_lt vt)))
      have vn := va_at.kept vn (hk _ (hw_lt vn) (hw_AWn (hw_RX_2 Rx) (by decide) (hw_lt vn)))
      have v11 := va_at.kept v11 (hk _ (hw_lt v11) (hw_AWn (hw_RX_13 Rx) (by decide) (hw_lt v11)))
      have vro := va_at.kept vro (hk _ (hw_lt vro) (hw_AWn (hw_RM_0 Rm) (by decide) (hw_lt vro)))
      have vik := va_at.kept vik (hk _ (hw_lt vik) (hw_AWn (hw_RM_2 Rm) (by decide) (hw_lt vik)))
      have vla := va_at.kept vla (hk _ (hw_lt vla) (hw_AWn (hw_RM_41 Rm) (by decide) (hw_lt vla)))
      refine lv_icmp_eq (tgt := 1188) hx hb dL_law_1083 (by decide) (fun c109 => ?_) (fun c109 => ?_)
      · have b110 : x9.toInt = (-2) := hw_ieq c109
        refine lv_iinc (v := 6) (lv' := [(3, .int 6), (2, .ref mo), (1, .ref x), (0, .ref b)]) hx hb dL_law_1188 hl (k := 0) rfl (by rfl) (by decide) rfl (fun ls hl => ?_)
        refine lv_goto (tgt := 18) hx hb dL_law_1191 (by decide) ?_
        refine lv_iload_n hx hb dL_law_18 rfl (lv_at hl 0 rfl) ?_
        refine lv_aload_n hx hb dL_law_19 rfl (lv_at hl 3 rfl) ?_
        refine va_slen hx hb hX hbl hbA hS dL_law_20 ?_
        refine lv_bipush (v := 6) hx hb dL_law_21 (by decide) ?_
        refine lv_isub hx hb dL_law_23 ?_
        refine lv_topi (fun x111 e112 => ?_)
        have t113 : x111.toInt = (Int32.ofNat L).toInt - 6 := by rw [e112]; exact hw_sub rfl rfl (by omega) (by omega)
        refine lv_icmp_gt (tgt := 1194) hx hb dL_law_24 (by decide) (fun c114 => ?_) (fun c114 => ?_)
        · have b115 : x111.toInt < 6 := hw_ilt c114
          refine lv_iconst (v := 1) hx hb dL_law_1194 (by decide) ?_
          have hfg := hw_hfg hG0 (by decide) hS.2.2
          refine va_forget hfg ?_
          refine W.widen (k := 600000) (n := 7302250) (by decide) (by decide) ?_
          exact lw_ret hx hb hr hlocks dL_law_1195
        · have b116 : 6 ≤ x111.toInt := hw_inlt c114
          exfalso; omega
      · have b117 : x9.toInt ≠ (-2) := hw_ine c109
        exfalso
        first | omega | contradiction | (subst_vars; omega)
    · have hRK := hw_Racks.kept hRK (fun q9 h9 l9 => hk q9 l9 (hw_AWn h9 (by decide) l9))
      have v10 := va_at.kept v10 (hk _ (hw_lt v10) (hw_AWn gx (by decide) (hw_lt v10)))
      have vc := va_at.kept vc (hk _ (hw_lt vc) (hw_AWn (hw_RX_0 Rx) (by decide) (hw_lt vc)))
      have vt := va_at.kept vt (hk _ (hw_lt vt) (hw_AWn (hw_RX_1 Rx) (by decide) (hw_lt vt)))
      have vn := va_at.kept vn (hk _ (hw_lt vn) (hw_AWn (hw_RX_2 Rx) (by decide) (hw_lt vn)))
      have v11 := va_at.kept v11 (hk _ (hw_lt v11) (hw_AWn (hw_RX_13 Rx) (by decide) (hw_lt v11)))
      have vro := va_at.kept vro (hk _ (hw_lt vro) (hw_AWn (hw_RM_0 Rm) (by decide) (hw_lt vro)))
      have vik := va_at.kept vik (hk _ (hw_lt vik) (hw_AWn (hw_RM_2 Rm) (by decide) (hw_lt vik)))
      have vla := va_at.kept vla (hk _ (hw_lt vla) (hw_AWn (hw_RM_41 Rm) (by decide) (hw_lt vla)))
      refine lv_icmp_eq (tgt := 1188) hx hb dL_law_1083 (by decide) (fun c118 => ?_) (fun c118 => ?_)
      · have b119 : x9.toInt = (-11) := hw_ieq c118
        refine lv_iinc (v := 6) (lv' := [(3, .int 6), (2, .ref mo), (1, .ref x), (0, .ref b)]) hx hb dL_law_1188 hl (k := 0) rfl (by rfl) (by decide) rfl (fun ls hl => ?_)
        refine lv_goto (tgt := 18) hx hb dL_law_1191 (by decide) ?_
        refine lv_iload_n hx hb dL_law_18 rfl (lv_at hl 0 rfl) ?_
        refine lv_aload_n hx hb dL_law_19 rfl (lv_at hl 3 rfl) ?_
        refine va_slen hx hb hX hbl hbA hS dL_law_20 ?_
        refine lv_bipush (v := 6) hx hb dL_law_21 (by decide) ?_
        refine lv_isub hx hb dL_law_23 ?_
        refine lv_topi (fun x120 e121 => ?_)
        have t122 : x120.toInt = (Int32.ofNat L).toInt - 6 := by rw [e121]; exact hw_sub rfl rfl (by omega) (by omega)
        refine lv_icmp_gt (tgt := 1194) hx hb dL_law_24 (by decide) (fun c123 => ?_) (fun c123 => ?_)
        · have b124 : x120.toInt < 6 := hw_ilt c123
          refine lv_iconst (v := 1) hx hb dL_law_1194 (by decide) ?_
          have hfg := hw_hfg hG0 (by decide) hS.2.2
          refine va_forget hfg ?_
          refine W.widen (k := 600000) (n := 7302250) (by decide) (by decide) ?_
          exact lw_ret hx hb hr hlocks dL_law_1195
        · have b125 : 6 ≤ x120.toInt := hw_inlt c123
          exfalso; omega
      · have b126 : x9.toInt ≠ (-11) := hw_ine c118
        exfalso
        first | omega | contradiction | (subst_vars; omega)
    · have q107i := hw_ieq q107
      have hRK := hw_Racks.kept hRK (fun q9 h9 l9 => hk q9 l9 (hw_AWn h9 (by decide) l9))
      have v10 := va_at.kept v10 (hk _ (hw_lt v10) (hw_AWn gx (by decide) (hw_lt v10)))
      have vc := va_at.kept vc (hk _ (hw_lt vc) (hw_AWn (hw_RX_0 Rx) (by decide) (hw_lt vc)))
      have vt := va_at.kept vt (hk _ (hw_lt vt) (hw_AWn (hw_RX_1 Rx) (by decide) (hw_lt vt)))
      have vn := va_at.kept vn (hk _ (hw_lt vn) (hw_AWn (hw_RX_2 Rx) (by decide) (hw_lt vn)))
      have v11 := va_at.kept v11 (hk _ (hw_lt v11) (hw_AWn (hw_RX_13 Rx) (by decide) (hw_lt v11)))
      have vro := va_at.kept vro (hk _ (hw_lt vro) (hw_AWn (hw_RM_0 Rm) (by decide) (hw_lt vro)))
      have vik := va_at.kept vik (hk _ (hw_lt vik) (hw_AWn (hw_RM_2 Rm) (by decide) (hw_lt vik)))
      have vla := va_at.kept vla (hk _ (hw_lt vla) (hw_AWn (hw_RM_41 Rm) (by decide) (hw_lt vla)))
      refine lv_icmp_eq (tgt := 1188) hx hb dL_law_1083 (by decide) (fun c127 => ?_) (fun c127 => ?_)
      · have b128 : x9.toInt = x101.toInt := hw_ieq c127
        refine lv_iinc (v := 6) (lv' := [(3, .int 6), (2, .ref mo), (1, .ref x), (0, .ref b)]) hx hb dL_law_1188 hl (k := 0) rfl (by rfl) (by decide) rfl (fun ls hl => ?_)
        refine lv_goto (tgt := 18) hx hb dL_law_1191 (by decide) ?_
        refine lv_iload_n hx hb dL_law_18 rfl (lv_at hl 0 rfl) ?_
        refine lv_aload_n hx hb dL_law_19 rfl (lv_at hl 3 rfl) ?_
        refine va_slen hx hb hX hbl hbA hS dL_law_20 ?_
        refine lv_bipush (v := 6) hx hb dL_law_21 (by decide) ?_
        refine lv_isub hx hb dL_law_23 ?_
        refine lv_topi (fun x129 e130 => ?_)
        have t131 : x129.toInt = (Int32.ofNat L).toInt - 6 := by rw [e130]; exact hw_sub rfl rfl (by omega) (by omega)
        refine lv_icmp_gt (tgt := 1194) hx hb dL_law_24 (by decide) (fun c132 => ?_) (fun c132 => ?_)
        · have b133 : x129.toInt < 6 := hw_ilt c132
          refine lv_iconst (v := 1) hx hb dL_law_1194 (by decide) ?_
          have hfg := hw_hfg hG0 (by decide) hS.2.2
          refine va_forget hfg ?_
          refine W.widen (k := 600000) (n := 7302250) (by decide) (by decide) ?_
          exact lw_ret hx hb hr hlocks dL_law_1195
        · have b134 : 6 ≤ x129.toInt := hw_inlt c132
          exfalso; omega
      · have b135 : x9.toInt ≠ x101.toInt := hw_ine c127
        exfalso
        first | omega | contradiction | (subst_vars; omega)

set_option maxHeartbeats 40000000 in
set_option maxRecDepth 100000 in
theorem hw_case1088 {p : Program} {e : Env} {s : State} {m : MethodId} {below : List Frame} {meth : Method} {c : Code} (l : Launch) {b L : Nat} {xs : Nat → Int32} {D : hw_D} {G : Nat → Nat} {H : Heap} {locs : List Loc} {x mo : Nat} {ls : Array Slot} (hL : L ≤ 6) (hL6 : 6 ≤ L) (hx : p.tables.exec = Jvm.exec) (hb : c.code = code) (hr : meth.sig.returnType = ret) (hml : c.maxLocals = 4) (hown : s.vm.findClass R_law = some m.cls) (hts0 : ∀ w ∈ lw_tbl, w.before #[Value.ref b] s = true) (hts : ∀ w ∈ wsL_law, w.before #[Value.ref b] s = true) (hX : va_X b L xs s s.heap) (hbl : b < s.heap.size) (hlocks : meth.locks = false) (hG0 : G = fun _ => 0) (hK : va_K D.1 vwCl (hw_ty D.2.1) s) (hST : hw_ST D.2.2 G s.heap.size s) (hF : hw_F0 D G s H x mo) (hS : va_S (hw_AW G [1, 2, 3, 4, 5, 6, 7, 8, 9, 10, 11, 12, 13, 14, 15, 16, 17, 18, 19, 20, 21, 22, 23, 24, 25, 26, 27, 28, 29, 30, 31, 32, 40, 42, 44, 45, 46, 48, 49, 50, 51, 53, 55, 58, 59, 67, 68, 69, 70, 71, 72, 73, 74, 75, 76, 77, 78, 79, 80, 81, 82, 83, 84, 101, 102, 103, 104, 105, 106, 107, 108, 109, 127, 128, 129, 132] s.heap.size) s.heap H locs) (hl : lv_has ls 4 [(3, .int 0), (2, .ref mo), (1, .ref x), (0, .ref b)]) : W p l e room_1 s m #[Value.ref b] below meth c H locs 200 8000 (lw_Z below #[Value.ref b] s) (F0 m 1088 ls []) := by
  have hH0 : hw_HT D G s.heap := fun a h => absurd (by rw [hG0]) h
  have hbA : ¬ (hw_AW G [1, 2, 3, 4, 5, 6, 7, 8, 9, 10, 11, 12, 13, 14, 15, 16, 17, 18, 19, 20, 21, 22, 23, 24, 25, 26, 27, 28, 29, 30, 31, 32, 40, 42, 44, 45, 46, 48, 49, 50, 51, 53, 55, 58, 59, 67, 68, 69, 70, 71, 72, 73, 74, 75, 76, 77, 78, 79, 80, 81, 82, 83, 84, 101, 102, 103, 104, 105, 106, 107, 108, 109, 127, 128, 129, 132] s.heap.size) b := hw_AWn (k := 0) (by rw [hG0]) (by decide) hbl
  have hLi : (Int32.ofNat L).toInt = (L : Int) := nI_toInt (by omega)
  obtain ⟨G1, rx, rc, rt, rn, fq, rm, fro, fik, fla, fsz, hH, hGe1, wx, wm, gx, gm, Rx, vx, Rc, vc, Rt, vt, Rn, vn, vq, hRK, Rm, vm, vro, hro, vik, hik, vla, vsz, hfs⟩ := hF
  have hHs := hH0
  obtain ⟨la, hla⟩ : ∃ z : Nat → Int32, z = fun _ => -1 := ⟨_, rfl⟩
  obtain ⟨sz9, hsz9⟩ : ∃ z : Nat → Int32, z = fun _ => 0 := ⟨_, rfl⟩
  rw [← hla, ← hsz9] at hRK
  have qq := hRK.q
  have qsz : ∀ j, j < 4 → -1 ≤ (fsz j).toInt ∧ (fsz j).toInt ≤ 24 := fun j hj => by rw [hfs j hj]; decide
  have hro0 : (fro 0).toInt = 0 := by rw [hro]; rfl
  have hro1 : (fro 1).toInt = 0 := by rw [hro]; rfl
  have hro2 : (fro 2).toInt = 0 := by rw [hro]; rfl
  have hla1 : (la (xs 1).toNatClampNeg).toInt = -1 := by rw [hla]; rfl
  have hfs1 : 0 ≤ (xs 1).toInt ∧ (xs 1).toInt ≤ 3 → (fsz (xs 1).toNatClampNeg).toInt = -1 := fun h9 => by rw [hfs _ (hw_i4 h9)]; rfl
  have hla2 : (la (xs 2).toNatClampNeg).toInt = -1 := by rw [hla]; rfl
  have hfs2 : 0 ≤ (xs 2).toInt ∧ (xs 2).toInt ≤ 3 → (fsz (xs 2).toNatClampNeg).toInt = -1 := fun h9 => by rw [hfs _ (hw_i4 h9)]; rfl
  have hla3 : (la (xs 3).toNatClampNeg).toInt = -1 := by rw [hla]; rfl
  have hfs3 : 0 ≤ (xs 3).toInt ∧ (xs 3).toInt ≤ 3 → (fsz (xs 3).toNatClampNeg).toInt = -1 := fun h9 => by rw [hfs _ (hw_i4 h9)]; rfl
  have hik1 : (fik (xs 1).toNatClampNeg).toInt = 0 := by rw [hik]; rfl
  refine lv_aload_n hx hb dL_law_1088 rfl (lv_at hl 2 rfl) ?_
  refine lv_aload_n hx hb dL_law_1089 rfl (lv_at hl 3 rfl) ?_
  refine lv_iload_n hx hb dL_law_1090 rfl (lv_at hl 0 rfl) ?_
  refine lv_iconst (v := 1) hx hb dL_law_1091 (by decide) ?_
  refine lv_iadd hx hb dL_law_1092 ?_
  refine W.eq (g2 := F0 m 1093 ls [.int 1, .ref b, .ref x]) rfl ?_
  refine va_sld hx hb hX hbl hbA hS (hw_in (x := 1) (by decide) (by have h9 : (1 : Int32).toInt = 1 := rfl; omega)) dL_law_1093 ?_
  refine W.eq (g2 := F0 m 1094 ls [.int (xs 1), .ref x]) rfl ?_
  refine lv_aload_n hx hb dL_law_1094 rfl (lv_at hl 3 rfl) ?_
  refine lv_iload_n hx hb dL_law_1095 rfl (lv_at hl 0 rfl) ?_
  refine lv_iconst (v := 2) hx hb dL_law_1096 (by decide) ?_
  refine lv_iadd hx hb dL_law_1097 ?_
  refine W.eq (g2 := F0 m 1098 ls [.int 2, .ref b, .int (xs 1), .ref x]) rfl ?_
  refine va_sld hx hb hX hbl hbA hS (hw_in (x := 2) (by decide) (by have h9 : (2 : Int32).toInt = 2 := rfl; omega)) dL_law_1098 ?_
  refine W.eq (g2 := F0 m 1099 ls [.int (xs 2), .int (xs 1), .ref x]) rfl ?_
  refine hw_cR (va_runV (As := [.int (xs 1), .int (xs 2)]) (rest := []) ⟨hx, hb, hml, hown, hts⟩ (k_X11_share l D G1 x (xs 1) (xs 2) _ la sz9 rx 0 0 0 0 fq gx Rx ⟨by first | decide | omega, by first | decide | omega⟩ qq) (cwV 2 hts gL_law_X11_share rfl rfl rfl (by decide +kernel) ⟨Nat.le_of_ble_eq_true rfl, Nat.le_of_ble_eq_true rfl⟩) (hw_pV (hw_rc (q := (RX11, TX11, 14)) hK vx rfl) hH hK hST hS (by decide) (hw_hG hGe1) ⟨vx, vq, hRK⟩) rfl rfl hl.1 rfl (lv_room (Nat.le_of_ble_eq_true rfl)) dL_law_1099 ⟨Nat.le_of_ble_eq_true rfl, Nat.le_of_ble_eq_true rfl⟩) (fun v hp => ?_)
  have l1 : (0 : Int32).toInt = 0 := rfl
  rcases hp with ⟨rfl, q2⟩ | ⟨rfl, q3, q4⟩ | ⟨rfl, q5, q6, q7⟩ | ⟨rfl, q8, q9, q10, q11⟩ | ⟨rfl, q12, q13, q14, q15⟩ | ⟨x16, rfl, q17, q18, q19, q20⟩
  · refine lv_aload_n hx hb dL_law_1102 rfl (lv_at hl 1 rfl) ?_
    refine lv_aload_n hx hb dL_law_1103 rfl (lv_at hl 3 rfl) ?_
    refine lv_iload_n hx hb dL_law_1104 rfl (lv_at hl 0 rfl) ?_
    refine lv_iconst (v := 1) hx hb dL_law_1105 (by decide) ?_
    refine lv_iadd hx hb dL_law_1106 ?_
    refine W.eq (g2 := F0 m 1107 ls [.int 1, .ref b, .ref mo, .long (-2)]) rfl ?_
    refine va_sld hx hb hX hbl hbA hS (hw_in (x := 1) (by decide) (by have h9 : (1 : Int32).toInt = 1 := rfl; omega)) dL_law_1107 ?_
    refine W.eq (g2 := F0 m 1108 ls [.int (xs 1), .ref mo, .long (-2)]) rfl ?_
    refine lv_aload_n hx hb dL_law_1108 rfl (lv_at hl 3 rfl) ?_
    refine lv_iload_n hx hb dL_law_1109 rfl (lv_at hl 0 rfl) ?_
    refine lv_iconst (v := 2) hx hb dL_law_1110 (by decide) ?_
    refine lv_iadd hx hb dL_law_1111 ?_
    refine W.eq (g2 := F0 m 1112 ls [.int 2, .ref b, .int (xs 1), .ref mo, .long (-2)]) rfl ?_
    refine va_sld hx hb hX hbl hbA hS (hw_in (x := 2) (by decide) (by have h9 : (2 : Int32).toInt = 2 := rfl; omega)) dL_law_1112 ?_
    refine W.eq (g2 := F0 m 1113 ls [.int (xs 2), .int (xs 1), .ref mo, .long (-2)]) rfl ?_
    refine hw_cR (va_runV (As := [.int (xs 1), .int (xs 2)]) (rest := [.long (-2)]) ⟨hx, hb, hml, hown, hts⟩ (k_X12_share l D G1 mo (xs 1) (xs 2) _ rm 0 0 0 0 60 0 0 0 0 0 0 0 0 0 fla fsz gm Rm ⟨by first | decide | omega, by first | decide | omega⟩ ⟨by first | decide | omega, by first | decide | omega⟩ ⟨by first | decide | omega, by first | decide | omega⟩ ⟨by first | decide | omega, by first | decide | omega⟩ ⟨by first | decide | omega, by first | decide | omega⟩ ⟨by first | decide | omega, by first | decide | omega⟩ ⟨by first | decide | omega, by first | decide | omega⟩ ⟨by first | decide | omega, by first | decide | omega⟩ ⟨by first | decide | omega, by first | decide | omega⟩ ⟨by first | decide | omega, by first | decide | omega⟩ ⟨by first | decide | omega, by first | decide | omega⟩ ⟨by first | decide | omega, by first | decide | omega⟩ qsz) (cwV 2 hts gL_law_X12_share rfl rfl rfl (by decide +kernel) ⟨Nat.le_of_ble_eq_true rfl, Nat.le_of_ble_eq_true rfl⟩) (hw_pV (hw_rc (q := (RX12, TX12, 45)) hK vm rfl) hH hK hST hS (by decide) (hw_hG hGe1) ⟨vm, vla, vsz⟩) rfl rfl hl.1 rfl (lv_room (Nat.le_of_ble_eq_true rfl)) dL_law_1113 ⟨Nat.le_of_ble_eq_true rfl, Nat.le_of_ble_eq_true rfl⟩) (fun v hp => ?_)
    have l21 : (60 : Int32).toInt = 60 := rfl
    rcases hp with ⟨rfl, q22⟩ | ⟨rfl, q23, q24⟩ | ⟨rfl, q25, q26, q27⟩ | ⟨rfl, q28, q29, q30, q31⟩ | ⟨rfl, q32, q33, q34, q35⟩ | ⟨x36, rfl, q37, q38, q39, q40⟩
    · refine W.lcmp hx hb dL_law_1116 ?_
      refine lv_topi (fun x41 e42 => ?_)
      refine lv_if_eq (tgt := 1188) hx hb dL_law_1117 (by decide) (fun c43 => ?_) (fun c43 => ?_)
      · have b44 := hw_cmpeq (e42 ▸ c43)
        have b45 : (-2) = (-2) := hw_Leq b44
        refine lv_iinc (v := 6) (lv' := [(3, .int 6), (2, .ref mo), (1, .ref x), (0, .ref b)]) hx hb dL_law_1188 hl (k := 0) rfl (by rfl) (by decide) rfl (fun ls hl => ?_)
        refine lv_goto (tgt := 18) hx hb dL_law_1191 (by decide) ?_
        refine lv_iload_n hx hb dL_law_18 rfl (lv_at hl 0 rfl) ?_
        refine lv_aload_n hx hb dL_law_19 rfl (lv_at hl 3 rfl) ?_
        refine va_slen hx hb hX hbl hbA hS dL_law_20 ?_
        refine lv_bipush (v := 6) hx hb dL_law_21 (by decide) ?_
        refine lv_isub hx hb dL_law_23 ?_
        refine lv_topi (fun x46 e47 => ?_)
        have t48 : x46.toInt = (Int32.ofNat L).toInt - 6 := by rw [e47]; exact hw_sub rfl rfl (by omega) (by omega)
        refine lv_icmp_gt (tgt := 1194) hx hb dL_law_24 (by decide) (fun c49 => ?_) (fun c49 => ?_)
        · have b50 : x46.toInt < 6 := hw_ilt c49
          refine lv_iconst (v := 1) hx hb dL_law_1194 (by decide) ?_
          have hfg := hw_hfg hG0 (by decide) hS.2.2
          refine va_forget hfg ?_
          refine W.widen (k := 600000) (n := 7302250) (by decide) (by decide) ?_
          exact lw_ret hx hb hr hlocks dL_law_1195
        · have b51 : 6 ≤ x46.toInt := hw_inlt c49
          exfalso; omega
      · have b52 := hw_cmpneq (e42 ▸ c43)
        have b53 : (-2) ≠ (-2) := hw_Lne b52
        exfalso
        first | omega | contradiction | (subst_vars; omega)
    · refine W.lcmp hx hb dL_law_1116 ?_
      refine lv_topi (fun x54 e55 => ?_)
      refine lv_if_eq (tgt := 1188) hx hb dL_law_1117 (by decide) (fun c56 => ?_) (fun c56 => ?_)
      · have b57 := hw_cmpeq (e55 ▸ c56)
        have b58 : (-2) = (-3) := hw_Leq b57
        refine lv_iinc (v := 6) (lv' := [(3, .int 6), (2, .ref mo), (1, .ref x), (0, .ref b)]) hx hb dL_law_1188 hl (k := 0) rfl (by rfl) (by decide) rfl (fun ls hl => ?_)
        refine lv_goto (tgt := 18) hx hb dL_law_1191 (by decide) ?_
        refine lv_iload_n hx hb dL_law_18 rfl (lv_at hl 0 rfl) ?_
        refine lv_aload_n hx hb dL_law_19 rfl (lv_at hl 3 rfl) ?_
        refine va_slen hx hb hX hbl hbA hS dL_law_20 ?_
        refine lv_bipush (v := 6) hx hb dL_law_21 (by decide) ?_
        refine lv_isub hx hb dL_law_23 ?_
        refine lv_topi (fun x59 e60 => ?_)
        have t61 : x59.toInt = (Int32.ofNat L).toInt - 6 := by rw [e60]; exact hw_sub rfl rfl (by omega) (by omega)
        refine lv_icmp_gt (tgt := 1194) hx hb dL_law_24 (by decide) (fun c62 => ?_) (fun c62 => ?_)
        · have b63 : x59.toInt < 6 := hw_ilt c62
          refine lv_iconst (v := 1) hx hb dL_law_1194 (by decide) ?_
          have hfg := hw_hfg hG0 (by decide) hS.2.2
          refine va_forget hfg ?_
          refine W.widen (k := 600000) (n := 7302250) (by decide) (by decide) ?_
          exact lw_ret hx hb hr hlocks dL_law_1195
        · have b64 : 6 ≤ x59.toInt := hw_inlt c62
          exfalso; omega
      · have b65 := hw_cmpneq (e55 ▸ c56)
        have b66 : (-2) ≠ (-3) := hw_Lne b65
        exfalso
        first | omega | contradiction | (subst_vars; omega)
    · refine W.lcmp hx hb dL_law_1116 ?_
      refine lv_topi (fun x67 e68 => ?_)
      refine lv_if_eq (tgt := 1188) hx hb dL_law_1117 (by decide) (fun c69 => ?_) (fun c69 => ?_)
      · have b70 := hw_cmpeq (e68 ▸ c69)
        have b71 : (-2) = (-11) := hw_Leq b70
        refine lv_iinc (v := 6) (lv' := [(3, .int 6), (2, .ref mo), (1, .ref x), (0, .ref b)]) hx hb dL_law_1188 hl (k := 0) rfl (by rfl) (by decide) rfl (fun ls hl => ?_)
        refine lv_goto (tgt := 18) hx hb dL_law_1191 (by decide) ?_
        refine lv_iload_n hx hb dL_law_18 rfl (lv_at hl 0 rfl) ?_
        refine lv_aload_n hx hb dL_law_19 rfl (lv_at hl 3 rfl) ?_
        refine va_slen hx hb hX hbl hbA hS dL_law_20 ?_
        refine lv_bipush (v := 6) hx hb dL_law_21 (by decide) ?_
        refine lv_isub hx hb dL_law_23 ?_
        refine lv_topi (fun x72 e73 => ?_)
        have t74 : x72.toInt = (Int32.ofNat L).toInt - 6 := by rw [e73]; exact hw_sub rfl rfl (by omega) (by omega)
        refine lv_icmp_gt (tgt := 1194) hx hb dL_law_24 (by decide) (fun c75 => ?_) (fun c75 => ?_)
        · have b76 : x72.toInt < 6 := hw_ilt c75
          refine lv_iconst (v := 1) hx hb dL_law_1194 (by decide) ?_
          have hfg := hw_hfg hG0 (by decide) hS.2.2
          refine va_forget hfg ?_
          refine W.widen (k := 600000) (n := 7302250) (by decide) (by decide) ?_
          exact lw_ret hx hb hr hlocks dL_law_1195
        · have b77 : 6 ≤ x72.toInt := hw_inlt c75
          exfalso; omega
      · have b78 := hw_cmpneq (e68 ▸ c69)
        have b79 : (-2) ≠ (-11) := hw_Lne b78
        exfalso
        first | omega | contradiction | (subst_vars; omega)
    · refine W.lcmp hx hb dL_law_1116 ?_
      refine lv_topi (fun x80 e81 => ?_)
      refine lv_if_eq (tgt := 1188) hx hb dL_law_1117 (by decide) (fun c82 => ?_) (fun c82 => ?_)
      · have b83 := hw_cmpeq (e81 ▸ c82)
        have b84 : (-2) = (-12) := hw_Leq b83
        refine lv_iinc (v := 6) (lv' := [(3, .int 6), (2, .ref mo), (1, .ref x), (0, .ref b)]) hx hb dL_law_1188 hl (k := 0) rfl (by rfl) (by decide) rfl (fun ls hl => ?_)
        refine lv_goto (tgt := 18) hx hb dL_law_1191 (by decide) ?_
        refine lv_iload_n hx hb dL_law_18 rfl (lv_at hl 0 rfl) ?_
        refine lv_aload_n hx hb dL_law_19 rfl (lv_at hl 3 rfl) ?_
        refine va_slen hx hb hX hbl hbA hS dL_law_20 ?_
        refine lv_bipush (v := 6) hx hb dL_law_21 (by decide) ?_
        refine lv_isub hx hb dL_law_23 ?_
        refine lv_topi (fun x85 e86 => ?_)
        have t87 : x85.toInt = (Int32.ofNat L).toInt - 6 := by rw [e86]; exact hw_sub rfl rfl (by omega) (by omega)
        refine lv_icmp_gt (tgt := 1194) hx hb dL_law_24 (by decide) (fun c88 => ?_) (fun c88 => ?_)
        · have b89 : x85.toInt < 6 := hw_ilt c88
          refine lv_iconst (v := 1) hx hb dL_law_1194 (by decide) ?_
          have hfg := hw_hfg hG0 (by decide) hS.2.2
          refine va_forget hfg ?_
          refine W.widen (k := 600000) (n := 7302250) (by decide) (by decide) ?_
          exact lw_ret hx hb hr hlocks dL_law_1195
        · have b90 : 6 ≤ x85.toInt := hw_inlt c88
          exfalso; omega
      · have b91 := hw_cmpneq (e81 ▸ c82)
        have b92 : (-2) ≠ (-12) := hw_Lne b91
        exfalso
        first | omega | contradiction | (subst_vars; omega)
    · refine W.lcmp hx hb dL_law_1116 ?_
      refine lv_topi (fun x93 e94 => ?_)
      refine lv_if_eq (tgt := 1188) hx hb dL_law_1117 (by decide) (fun c95 => ?_) (fun c95 => ?_)
      · have b96 := hw_cmpeq (e94 ▸ c95)
        have b97 : (-2) = (-16) := hw_Leq b96
        refine lv_iinc (v := 6) (lv' := [(3, .int 6), (2, .ref mo), (1, .ref x), (0, .ref b)]) hx hb dL_law_1188 hl (k := 0) rfl (by rfl) (by decide) rfl (fun ls hl => ?_)
        refine lv_goto (tgt := 18) hx hb dL_law_1191 (by decide) ?_
        refine lv_iload_n hx hb dL_law_18 rfl (lv_at hl 0 rfl) ?_
        refine lv_aload_n hx hb dL_law_19 rfl (lv_at hl 3 rfl) ?_
        refine va_slen hx hb hX hbl hbA hS dL_law_20 ?_
        refine lv_bipush (v := 6) hx hb dL_law_21 (by decide) ?_
        refine lv_isub hx hb dL_law_23 ?_
        refine lv_topi (fun x98 e99 => ?_)
        have t100 : x98.toInt = (Int32.ofNat L).toInt - 6 := by rw [e99]; exact hw_sub rfl rfl (by omega) (by omega)
        refine lv_icmp_gt (tgt := 1194) hx hb dL_law_24 (by decide) (fun c101 => ?_) (fun c101 => ?_)
        · have b102 : x98.toInt < 6 := hw_ilt c101
          refine lv_iconst (v := 1) hx hb dL_law_1194 (by decide) ?_
          have hfg := hw_hfg hG0 (by decide) hS.2.2
          refine va_forget hfg ?_
          refine W.widen (k := 600000) (n := 7302250) (by decide) (by decide) ?_
          exact lw_ret hx hb hr hlocks dL_law_1195
        · have b103 : 6 ≤ x98.toInt := hw_inlt c101
          exfalso; omega
      · have b104 := hw_cmpneq (e94 ▸ c95)
        have b105 : (-2) ≠ (-16) := hw_Lne b104
        exfalso
        first | omega | contradiction | (subst_vars; omega)
    · refine W.lcmp hx hb dL_law_1116 ?_
      refine lv_topi (fun x106 e107 => ?_)
      refine lv_if_eq (tgt := 1188) hx hb dL_law_1117 (by decide) (fun c108 => ?_) (fun c108 => ?_)
      · have b109 := hw_cmpeq (e107 ▸ c108)
        have b110 : (-2) = x36.toInt := hw_Leq b109
        refine lv_iinc (v := 6) (lv' := [(3, .int 6), (2, .ref mo), (1, .ref x), (0, .ref b)]) hx hb dL_law_1188 hl (k := 0) rfl (by rfl) (by decide) rfl (fun ls hl => ?_)
        refine lv_goto (tgt := 18) hx hb dL_law_1191 (by decide) ?_
        refine lv_iload_n hx hb dL_law_18 rfl (lv_at hl 0 rfl) ?_
        refine lv_aload_n hx hb dL_law_19 rfl (lv_at hl 3 rfl) ?_
        refine va_slen hx hb hX hbl hbA hS dL_law_20 ?_
        refine lv_bipush (v := 6) hx hb dL_law_21 (by decide) ?_
        refine lv_isub hx hb dL_law_23 ?_
        refine lv_topi (fun x111 e112 => ?_)
        have t113 : x111.toInt = (Int32.ofNat L).toInt - 6 := by rw [e112]; exact hw_sub rfl rfl (by omega) (by omega)
        refine lv_icmp_gt (tgt := 1194) hx hb dL_law_24 (by decide) (fun c114 => ?_) (fun c114 => ?_)
        · have b115 : x111.toInt < 6 := hw_ilt c114
          refine lv_iconst (v := 1) hx hb dL_law_1194 (by decide) ?_
          have hfg := hw_hfg hG0 (by decide) hS.2.2
          refine va_forget hfg ?_
          refine W.widen (k := 600000) (n := 7302250) (by decide) (by decide) ?_
          exact lw_ret hx hb hr hlocks dL_law_1195
        · have b116 : 6 ≤ x111.toInt := hw_inlt c114
          exfalso; omega
      · have b117 := hw_cmpneq (e107 ▸ c108)
        have b118 : (-2) ≠ x36.toInt := hw_Lne b117
        exfalso
        first | omega | contradiction | (subst_vars; omega)
  · refine lv_aload_n hx hb dL_law_1102 rfl (lv_at hl 1 rfl) ?_
    refine lv_aload_n hx hb dL_law_1103 rfl (lv_at hl 3 rfl) ?_
    refine lv_iload_n hx hb dL_law_1104 rfl (lv_at hl 0 rfl) ?_
    refine lv_iconst (v := 1) hx hb dL_law_1105 (by decide) ?_
    refine lv_iadd hx hb dL_law_1106 ?_
    refine W.eq (g2 := F0 m 1107 ls [.int 1, .ref b, .ref mo, .long (-3)]) rfl ?_
    refine va_sld hx hb hX hbl hbA hS (hw_in (x := 1) (by decide) (by have h9 : (1 : Int32).toInt = 1 := rfl; omega)) dL_law_1107 ?_
    refine W.eq (g2 := F0 m 1108 ls [.int (xs 1), .ref mo, .long (-3)]) rfl ?_
    refine lv_aload_n hx hb dL_law_1108 rfl (lv_at hl 3 rfl) ?_
    refine lv_iload_n hx hb dL_law_1109 rfl (lv_at hl 0 rfl) ?_
    refine lv_iconst (v := 2) hx hb dL_law_1110 (by decide) ?_
    refine lv_iadd hx hb dL_law_1111 ?_
    refine W.eq (g2 := F0 m 1112 ls [.int 2, .ref b, .int (xs 1), .ref mo, .long (-3)]) rfl ?_
    refine va_sld hx hb hX hbl hbA hS (hw_in (x := 2) (by decide) (by have h9 : (2 : Int32).toInt = 2 := rfl; omega)) dL_law_1112 ?_
    refine W.eq (g2 := F0 m 1113 ls [.int (xs 2), .int (xs 1), .ref mo, .long (-3)]) rfl ?_
    refine hw_cR (va_runV (As := [.int (xs 1), .int (xs 2)]) (rest := [.long (-3)]) ⟨hx, hb, hml, hown, hts⟩ (k_X12_share l D G1 mo (xs 1) (xs 2) _ rm 0 0 0 0 60 0 0 0 0 0 0 0 0 0 fla fsz gm Rm ⟨by first | decide | omega, by first | decide | omega⟩ ⟨by first | decide | omega, by first | decide | omega⟩ ⟨by first | decide | omega, by first | decide | omega⟩ ⟨by first | decide | omega, by first | decide | omega⟩ ⟨by first | decide | omega, by first | decide | omega⟩ ⟨by first | decide | omega, by first | decide | omega⟩ ⟨by first | decide | omega, by first | decide | omega⟩ ⟨by first | decide | omega, by first | decide | omega⟩ ⟨by first | decide | omega, by first | decide | omega⟩ ⟨by first | decide | omega, by first | decide | omega⟩ ⟨by first | decide | omega, by first | decide | omega⟩ ⟨by first | decide | omega, by first | decide | omega⟩ qsz) (cwV 2 hts gL_law_X12_share rfl rfl rfl (by decide +kernel) ⟨Nat.le_of_ble_eq_true rfl, Nat.le_of_ble_eq_true rfl⟩) (hw_pV (hw_rc (q := (RX12, TX12, 45)) hK vm rfl) hH hK hST hS (by decide) (hw_hG hGe1) ⟨vm, vla, vsz⟩) rfl rfl hl.1 rfl (lv_room (Nat.le_of_ble_eq_true rfl)) dL_law_1113 ⟨Nat.le_of_ble_eq_true rfl, Nat.le_of_ble_eq_true rfl⟩) (fun v hp => ?_)
    have l119 : (60 : Int32).toInt = 60 := rfl
    rcases hp with ⟨rfl, q120⟩ | ⟨rfl, q121, q122⟩ | ⟨rfl, q123, q124, q125⟩ | ⟨rfl, q126, q127, q128, q129⟩ | ⟨rfl, q130, q131, q132, q133⟩ | ⟨x134, rfl, q135, q136, q137, q138⟩
    · refine W.lcmp hx hb dL_law_1116 ?_
      refine lv_topi (fun x139 e140 => ?_)
      refine lv_if_eq (tgt := 1188) hx hb dL_law_1117 (by decide) (fun c141 => ?_) (fun c141 => ?_)
      · have b142 := hw_cmpeq (e140 ▸ c141)
        have b143 : (-3) = (-2) := hw_Leq b142
        refine lv_iinc (v := 6) (lv' := [(3, .int 6), (2, .ref mo), (1, .ref x), (0, .ref b)]) hx hb dL_law_1188 hl (k := 0) rfl (by rfl) (by decide) rfl (fun ls hl => ?_)
        refine lv_goto (tgt := 18) hx hb dL_law_1191 (by decide) ?_
        refine lv_iload_n hx hb dL_law_18 rfl (lv_at hl 0 rfl) ?_
        refine lv_aload_n hx hb dL_law_19 rfl (lv_at hl 3 rfl) ?_
        refine va_slen hx hb hX hbl hbA hS dL_law_20 ?_
        refine lv_bipush (v := 6) hx hb dL_law_21 (by decide) ?_
        refine lv_isub hx hb dL_law_23 ?_
        refine lv_topi (fun x144 e145 => ?_)
        have t146 : x144.toInt = (Int32.ofNat L).toInt - 6 := by rw [e145]; exact hw_sub rfl rfl (by omega) (by omega)
        refine lv_icmp_gt (tgt := 1194) hx hb dL_law_24 (by decide) (fun c147 => ?_) (fun c147 => ?_)
        · have b148 : x144.toInt < 6 := hw_ilt c147
          refine lv_iconst (v := 1) hx hb dL_law_1194 (by decide) ?_
          have hfg := hw_hfg hG0 (by decide) hS.2.2
          refine va_forget hfg ?_
          refine W.widen (k := 600000) (n := 7302250) (by decide) (by decide) ?_
          exact lw_ret hx hb hr hlocks dL_law_1195
        · have b149 : 6 ≤ x144.toInt := hw_inlt c147
          exfalso; omega
      · have b150 := hw_cmpneq (e140 ▸ c141)
        have b151 : (-3) ≠ (-2) := hw_Lne b150
        exfalso
        first | omega | contradiction | (subst_vars; omega)
    · refine W.lcmp hx hb dL_law_1116 ?_
      refine lv_topi (fun x152 e153 => ?_)
      refine lv_if_eq (tgt := 1188) hx hb dL_law_1117 (by decide) (fun c154 => ?_) (fun c154 => ?_)
      · have b155 := hw_cmpeq (e153 ▸ c154)
        have b156 : (-3) = (-3) := hw_Leq b155
        refine lv_iinc (v := 6) (lv' := [(3, .int 6), (2, .ref mo), (1, .ref x), (0, .ref b)]) hx hb dL_law_1188 hl (k := 0) rfl (by rfl) (by decide) rfl (fun ls hl => ?_)
        refine lv_goto (tgt := 18) hx hb dL_law_1191 (by decide) ?_
        refine lv_iload_n hx hb dL_law_18 rfl (lv_at hl 0 rfl) ?_
        refine lv_aload_n hx hb dL_law_19 rfl (lv_at hl 3 rfl) ?_
        refine va_slen hx hb hX hbl hbA hS dL_law_20 ?_
        refine lv_bipush (v := 6) hx hb dL_law_21 (by decide) ?_
        refine lv_isub hx hb dL_law_23 ?_
        refine lv_topi (fun x157 e158 => ?_)
        have t159 : x157.toInt = (Int32.ofNat L).toInt - 6 := by rw [e158]; exact hw_sub rfl rfl (by omega) (by omega)
        refine lv_icmp_gt (tgt := 1194) hx hb dL_law_24 (by decide) (fun c160 => ?_) (fun c160 => ?_)
        · have b161 : x157.toInt < 6 := hw_ilt c160
          refine lv_iconst (v := 1) hx hb dL_law_1194 (by decide) ?_
          have hfg := hw_hfg hG0 (by decide) hS.2.2
          refine va_forget hfg ?_
          refine W.widen (k := 600000) (n := 7302250) (by decide) (by decide) ?_
          exact lw_ret hx hb hr hlocks dL_law_1195
        · have b162 : 6 ≤ x157.toInt := hw_inlt c160
          exfalso; omega
      · have b163 := hw_cmpneq (e153 ▸ c154)
        have b164 : (-3) ≠ (-3) := hw_Lne b163
        exfalso
        first | omega | contradiction | (subst_vars; omega)
    · refine W.lcmp hx hb dL_law_1116 ?_
      refine lv_topi (fun x165 e166 => ?_)
      refine lv_if_eq (tgt := 1188) hx hb dL_law_1117 (by decide) (fun c167 => ?_) (fun c167 => ?_)
      · have b168 := hw_cmpeq (e166 ▸ c167)
        have b169 : (-3) = (-11) := hw_Leq b168
        refine lv_iinc (v := 6) (lv' := [(3, .int 6), (2, .ref mo), (1, .ref x), (0, .ref b)]) hx hb dL_law_1188 hl (k := 0) rfl (by rfl) (by decide) rfl (fun ls hl => ?_)
        refine lv_goto (tgt := 18) hx hb dL_law_1191 (by decide) ?_
        refine lv_iload_n hx hb dL_law_18 rfl (lv_at hl 0 rfl) ?_
        refine lv_aload_n hx hb dL_law_19 rfl (lv_at hl 3 rfl) ?_
        refine va_slen hx hb hX hbl hbA hS dL_law_20 ?_
        refine lv_bipush (v := 6) hx hb dL_law_21 (by decide) ?_
        refine lv_isub hx hb dL_law_23 ?_
        refine lv_topi (fun x170 e171 => ?_)
        have t172 : x170.toInt = (Int32.ofNat L).toInt - 6 := by rw [e171]; exact hw_sub rfl rfl (by omega) (by omega)
        refine lv_icmp_gt (tgt := 1194) hx hb dL_law_24 (by decide) (fun c173 => ?_) (fun c173 => ?_)
        · have b174 : x170.toInt < 6 := hw_ilt c173
          refine lv_iconst (v := 1) hx hb dL_law_1194 (by decide) ?_
          have hfg := hw_hfg hG0 (by decide) hS.2.2
          refine va_forget hfg ?_
          refine W.widen (k := 600000) (n := 7302250) (by decide) (by decide) ?_
          exact lw_ret hx hb hr hlocks dL_law_1195
        · have b175 : 6 ≤ x170.toInt := hw_inlt c173
          exfalso; omega
      · have b176 := hw_cmpneq (e166 ▸ c167)
        have b177 : (-3) ≠ (-11) := hw_Lne b176
        exfalso
        first | omega | contradiction | (subst_vars; omega)
    · refine W.lcmp hx hb dL_law_1116 ?_
      refine lv_topi (fun x178 e179 => ?_)
      refine lv_if_eq (tgt := 1188) hx hb dL_law_1117 (by decide) (fun c180 => ?_) (fun c180 => ?_)
      · have b181 := hw_cmpeq (e179 ▸ c180)
        have b182 : (-3) = (-12) := hw_Leq b181
        refine lv_iinc (v := 6) (lv' := [(3, .int 6), (2, .ref mo), (1, .ref x), (0, .ref b)]) hx hb dL_law_1188 hl (k := 0) rfl (by rfl) (by decide) rfl (fun ls hl => ?_)
        refine lv_goto (tgt := 18) hx hb dL_law_1191 (by decide) ?_
        refine lv_iload_n hx hb dL_law_18 rfl (lv_at hl 0 rfl) ?_
        refine lv_aload_n hx hb dL_law_19 rfl (lv_at hl 3 rfl) ?_
        refine va_slen hx hb hX hbl hbA hS dL_law_20 ?_
        refine lv_bipush (v := 6) hx hb dL_law_21 (by decide) ?_
        refine lv_isub hx hb dL_law_23 ?_
        refine lv_topi (fun x183 e184 => ?_)
        have t185 : x183.toInt = (Int32.ofNat L).toInt - 6 := by rw [e184]; exact hw_sub rfl rfl (by omega) (by omega)
        refine lv_icmp_gt (tgt := 1194) hx hb dL_law_24 (by decide) (fun c186 => ?_) (fun c186 => ?_)
        · have b187 : x183.toInt < 6 := hw_ilt c186
          refine lv_iconst (v := 1) hx hb dL_law_1194 (by decide) ?_
          have hfg := hw_hfg hG0 (by decide) hS.2.2
          refine va_forget hfg ?_
          refine W.widen (k := 600000) (n := 7302250) (by decide) (by decide) ?_
          exact lw_ret hx hb hr hlocks dL_law_1195
        · have b188 : 6 ≤ x183.toInt := hw_inlt c186
          exfalso; omega
      · have b189 := hw_cmpneq (e179 ▸ c180)
        have b190 : (-3) ≠ (-12) := hw_Lne b189
        exfalso
        first | omega | contradiction | (subst_vars; omega)
    · refine W.lcmp hx hb dL_law_1116 ?_
      refine lv_topi (fun x191 e192 => ?_)
      refine lv_if_eq (tgt := 1188) hx hb dL_law_1117 (by decide) (fun c193 => ?_) (fun c193 => ?_)
      · have b194 := hw_cmpeq (e192 ▸ c193)
        have b195 : (-3) = (-16) := hw_Leq b194
        refine lv_iinc (v := 6) (lv' := [(3, .int 6), (2, .ref mo), (1, .ref x), (0, .ref b)]) hx hb dL_law_1188 hl (k := 0) rfl (by rfl) (by decide) rfl (fun ls hl => ?_)
        refine lv_goto (tgt := 18) hx hb dL_law_1191 (by decide) ?_
        refine lv_iload_n hx hb dL_law_18 rfl (lv_at hl 0 rfl) ?_
        refine lv_aload_n hx hb dL_law_19 rfl (lv_at hl 3 rfl) ?_
        refine va_slen hx hb hX hbl hbA hS dL_law_20 ?_
        refine lv_bipush (v := 6) hx hb dL_law_21 (by decide) ?_
        refine lv_isub hx hb dL_law_23 ?_
        refine lv_topi (fun x196 e197 => ?_)
        have t198 : x196.toInt = (Int32.ofNat L).toInt - 6 := by rw [e197]; exact hw_sub rfl rfl (by omega) (by omega)
        refine lv_icmp_gt (tgt := 1194) hx hb dL_law_24 (by decide) (fun c199 => ?_) (fun c199 => ?_)
        · have b200 : x196.toInt < 6 := hw_ilt c199
          refine lv_iconst (v := 1) hx hb dL_law_1194 (by decide) ?_
          have hfg := hw_hfg hG0 (by decide) hS.2.2
          refine va_forget hfg ?_
          refine W.widen (k := 600000) (n := 7302250) (by decide) (by decide) ?_
          exact lw_ret hx hb hr hlocks dL_law_1195
        · have b201 : 6 ≤ x196.toInt := hw_inlt c199
          exfalso; omega
      · have b202 := hw_cmpneq (e192 ▸ c193)
        have b203 : (-3) ≠ (-16) := hw_Lne b202
        exfalso
        first | omega | contradiction | (subst_vars; omega)
    · refine W.lcmp hx hb dL_law_1116 ?_
      refine lv_topi (fun x204 e205 => ?_)
      refine lv_if_eq (tgt := 1188) hx hb dL_law_1117 (by decide) (fun c206 => ?_) (fun c206 => ?_)
      · have b207 := hw_cmpeq (e205 ▸ c206)
        have b208 : (-3) = x134.toInt := hw_Leq b207
        refine lv_iinc (v := 6) (lv' := [(3, .int 6), (2, .ref mo), (1, .ref x), (0, .ref b)]) hx hb dL_law_1188 hl (k := 0) rfl (by rfl) (by decide) rfl (fun ls hl => ?_)
        refine lv_goto (tgt := 18) hx hb dL_law_1191 (by decide) ?_
        refine lv_iload_n hx hb dL_law_18 rfl (lv_at hl 0 rfl) ?_
        refine lv_aload_n hx hb dL_law_19 rfl (lv_at hl 3 rfl) ?_
        refine va_slen hx hb hX hbl hbA hS dL_law_20 ?_
        refine lv_bipush (v := 6) hx hb dL_law_21 (by decide) ?_
        refine lv_isub hx hb dL_law_23 ?_
        refine lv_topi (fun x209 e210 => ?_)
        have t211 : x209.toInt = (Int32.ofNat L).toInt - 6 := by rw [e210]; exact hw_sub rfl rfl (by omega) (by omega)
        refine lv_icmp_gt (tgt := 1194) hx hb dL_law_24 (by decide) (fun c212 => ?_) (fun c212 => ?_)
        · have b213 : x209.toInt < 6 := hw_ilt c212
          refine lv_iconst (v := 1) hx hb dL_law_1194 (by decide) ?_
          have hfg := hw_hfg hG0 (by decide) hS.2.2
          refine va_forget hfg ?_
          refine W.widen (k := 600000) (n := 7302250) (by decide) (by decide) ?_
          exact lw_ret hx hb hr hlocks dL_law_1195
        · have b214 : 6 ≤ x209.toInt := hw_inlt c212
          exfalso; omega
      · have b215 := hw_cmpneq (e205 ▸ c206)
        have b216 : (-3) ≠ x134.toInt := hw_Lne b215
        exfalso
        first | omega | contradiction | (subst_vars; omega)
  · refine lv_aload_n hx hb dL_law_1102 rfl (lv_at hl 1 rfl) ?_
    refine lv_aload_n hx hb dL_law_1103 rfl (lv_at hl 3 rfl) ?_
    refine lv_iload_n hx hb dL_law_1104 rfl (lv_at hl 0 rfl) ?_
    refine lv_iconst (v := 1) hx hb dL_law_1105 (by decide) ?_
    refine lv_iadd hx hb dL_law_1106 ?_
    refine W.eq (g2 := F0 m 1107 ls [.int 1, .ref b, .ref mo, .long (-11)]) rfl ?_
    refine va_sld hx hb hX hbl hbA hS (hw_in (x := 1) (by decide) (by have h9 : (1 : Int32).toInt = 1 := rfl; omega)) dL_law_1107 ?_
    refine W.eq (g2 := F0 m 1108 ls [.int (xs 1), .ref mo, .long (-11)]) rfl ?_
    refine lv_aload_n hx hb dL_law_1108 rfl (lv_at hl 3 rfl) ?_
    refine lv_iload_n hx hb dL_law_1109 rfl (lv_at hl 0 rfl) ?_
    refine lv_iconst (v := 2) hx hb dL_law_1110 (by decide) ?_
    refine lv_iadd hx hb dL_law_1111 ?_
    refine W.eq (g2 := F0 m 1112 ls [.int 2, .ref b, .int (xs 1), .ref mo, .long (-11)]) rfl ?_
    refine va_sld hx hb hX hbl hbA hS (hw_in (x := 2) (by decide) (by have h9 : (2 : Int32).toInt = 2 := rfl; omega)) dL_law_1112 ?_
    refine W.eq (g2 := F0 m 1113 ls [.int (xs 2), .int (xs 1), .ref mo, .long (-11)]) rfl ?_
    refine hw_cR (va_runV (As := [.int (xs 1), .int (xs 2)]) (rest := [.long (-11)]) ⟨hx, hb, hml, hown, hts⟩ (k_X12_share l D G1 mo (xs 1) (xs 2) _ rm 0 0 0 0 60 0 0 0 0 0 0 0 0 0 fla fsz gm Rm ⟨by first | decide | omega, by first | decide | omega⟩ ⟨by first | decide | omega, by first | decide | omega⟩ ⟨by first | decide | omega, by first | decide | omega⟩ ⟨by first | decide | omega, by first | decide | omega⟩ ⟨by first | decide | omega, by first | decide | omega⟩ ⟨by first | decide | omega, by first | decide | omega⟩ ⟨by first | decide | omega, by first | decide | omega⟩ ⟨by first | decide | omega, by first | decide | omega⟩ ⟨by first | decide | omega, by first | decide | omega⟩ ⟨by first | decide | omega, by first | decide | omega⟩ ⟨by first | decide | omega, by first | decide | omega⟩ ⟨by first | decide | omega, by first | decide | omega⟩ qsz) (cwV 2 hts gL_law_X12_share rfl rfl rfl (by decide +kernel) ⟨Nat.le_of_ble_eq_true rfl, Nat.le_of_ble_eq_true rfl⟩) (hw_pV (hw_rc (q := (RX12, TX12, 45)) hK vm rfl) hH hK hST hS (by decide) (hw_hG hGe1) ⟨vm, vla, vsz⟩) rfl rfl hl.1 rfl (lv_room (Nat.le_of_ble_eq_true rfl)) dL_law_1113 ⟨Nat.le_of_ble_eq_true rfl, Nat.le_of_ble_eq_true rfl⟩) (fun v hp => ?_)
    have l217 : (60 : Int32).toInt = 60 := rfl
    rcases hp with ⟨rfl, q218⟩ | ⟨rfl, q219, q220⟩ | ⟨rfl, q221, q222, q223⟩ | ⟨rfl, q224, q225, q226, q227⟩ | ⟨rfl, q228, q229, q230, q231⟩ | ⟨x232, rfl, q233, q234, q235, q236⟩
    · refine W.lcmp hx hb dL_law_1116 ?_
      refine lv_topi (fun x237 e238 => ?_)
      refine lv_if_eq (tgt := 1188) hx hb dL_law_1117 (by decide) (fun c239 => ?_) (fun c239 => ?_)
      · have b240 := hw_cmpeq (e238 ▸ c239)
        have b241 : (-11) = (-2) := hw_Leq b240
        refine lv_iinc (v := 6) (lv' := [(3, .int 6), (2, .ref mo), (1, .ref x), (0, .ref b)]) hx hb dL_law_1188 hl (k := 0) rfl (by rfl) (by decide) rfl (fun ls hl => ?_)
        refine lv_goto (tgt := 18) hx hb dL_law_1191 (by decide) ?_
        refine lv_iload_n hx hb dL_law_18 rfl (lv_at hl 0 rfl) ?_
        refine lv_aload_n hx hb dL_law_19 rfl (lv_at hl 3 rfl) ?_
        refine va_slen hx hb hX hbl hbA hS dL_law_20 ?_
        refine lv_bipush (v := 6) hx hb dL_law_21 (by decide) ?_
        refine lv_isub hx hb dL_law_23 ?_
        refine lv_topi (fun x242 e243 => ?_)
        have t244 : x242.toInt = (Int32.ofNat L).toInt - 6 := by rw [e243]; exact hw_sub rfl rfl (by omega) (by omega)
        refine lv_icmp_gt (tgt := 1194) hx hb dL_law_24 (by decide) (fun c245 => ?_) (fun c245 => ?_)
        · have b246 : x242.toInt < 6 := hw_ilt c245
          refine lv_iconst (v := 1) hx hb dL_law_1194 (by decide) ?_
          have hfg := hw_hfg hG0 (by decide) hS.2.2
          refine va_forget hfg ?_
          refine W.widen (k := 600000) (n := 7302250) (by decide) (by decide) ?_
          exact lw_ret hx hb hr hlocks dL_law_1195
        · have b247 : 6 ≤ x242.toInt := hw_inlt c245
          exfalso; omega
      · have b248 := hw_cmpneq (e238 ▸ c239)
        have b249 : (-11) ≠ (-2) := hw_Lne b248
        exfalso
        first | omega | contradiction | (subst_vars; omega)
    · refine W.lcmp hx hb dL_law_1116 ?_
      refine lv_topi (fun x250 e251 => ?_)
      refine lv_if_eq (tgt := 1188) hx hb dL_law_1117 (by decide) (fun c252 => ?_) (fun c252 => ?_)
      · have b253 := hw_cmpeq (e251 ▸ c252)
        have b254 : (-11) = (-3) := hw_Leq b253
        refine lv_iinc (v := 6) (lv' := [(3, .int 6), (2, .ref mo), (1, .ref x), (0, .ref b)]) hx hb dL_law_1188 hl (k := 0) rfl (by rfl) (by decide) rfl (fun ls hl => ?_)
        refine lv_goto (tgt := 18) hx hb dL_law_1191 (by decide) ?_
        refine lv_iload_n hx hb dL_law_18 rfl (lv_at hl 0 rfl) ?_
        refine lv_aload_n hx hb dL_law_19 rfl (lv_at hl 3 rfl) ?_
        refine va_slen hx hb hX hbl hbA hS dL_law_20 ?_
        refine lv_bipush (v := 6) hx hb dL_law_21 (by decide) ?_
        refine lv_isub hx hb dL_law_23 ?_
        refine lv_topi (fun x255 e256 => ?_)
        have t257 : x255.toInt = (Int32.ofNat L).toInt - 6 := by rw [e256]; exact hw_sub rfl rfl (by omega) (by omega)
        refine lv_icmp_gt (tgt := 1194) hx hb dL_law_24 (by decide) (fun c258 => ?_) (fun c258 => ?_)
        · have b259 : x255.toInt < 6 := hw_ilt c258
          refine lv_iconst (v := 1) hx hb dL_law_1194 (by decide) ?_
          have hfg := hw_hfg hG0 (by decide) hS.2.2
          refine va_forget hfg ?_
          refine W.widen (k := 600000) (n := 7302250) (by decide) (by decide) ?_
          exact lw_ret hx hb hr hlocks dL_law_1195
        · have b260 : 6 ≤ x255.toInt := hw_inlt c258
          exfalso; omega
      · have b261 := hw_cmpneq (e251 ▸ c252)
        have b262 : (-11) ≠ (-3) := hw_Lne b261
        exfalso
        first | omega | contradiction | (subst_vars; omega)
    · refine W.lcmp hx hb dL_law_1116 ?_
      refine lv_topi (fun x263 e264 => ?_)
      refine lv_if_eq (tgt := 1188) hx hb dL_law_1117 (by decide) (fun c265 => ?_) (fun c265 => ?_)
      · have b266 := hw_cmpeq (e264 ▸ c265)
        have b267 : (-11) = (-11) := hw_Leq b266
        refine lv_iinc (v := 6) (lv' := [(3, .int 6), (2, .ref mo), (1, .ref x), (0, .ref b)]) hx hb dL_law_1188 hl (k := 0) rfl (by rfl) (by decide) rfl (fun ls hl => ?_)
        refine lv_goto (tgt := 18) hx hb dL_law_1191 (by decide) ?_
        refine lv_iload_n hx hb dL_law_18 rfl (lv_at hl 0 rfl) ?_
        refine lv_aload_n hx hb dL_law_19 rfl (lv_at hl 3 rfl) ?_
        refine va_slen hx hb hX hbl hbA hS dL_law_20 ?_
        refine lv_bipush (v := 6) hx hb dL_law_21 (by decide) ?_
        refine lv_isub hx hb dL_law_23 ?_
        refine lv_topi (fun x268 e269 => ?_)
        have t270 : x268.toInt = (Int32.ofNat L).toInt - 6 := by rw [e269]; exact hw_sub rfl rfl (by omega) (by omega)
        refine lv_icmp_gt (tgt := 1194) hx hb dL_law_24 (by decide) (fun c271 => ?_) (fun c271 => ?_)
        · have b272 : x268.toInt < 6 := hw_ilt c271
          refine lv_iconst (v := 1) hx hb dL_law_1194 (by decide) ?_
          have hfg := hw_hfg hG0 (by decide) hS.2.2
          refine va_forget hfg ?_
          refine W.widen (k := 600000) (n := 7302250) (by decide) (by decide) ?_
          exact lw_ret hx hb hr hlocks dL_law_1195
        · have b273 : 6 ≤ x268.toInt := hw_inlt c271
          exfalso; omega
      · have b274 := hw_cmpneq (e264 ▸ c265)
        have b275 : (-11) ≠ (-11) := hw_Lne b274
        exfalso
        first | omega | contradiction | (subst_vars; omega)
    · refine W.lcmp hx hb dL_law_1116 ?_
      refine lv_topi (fun x276 e277 => ?_)
      refine lv_if_eq (tgt := 1188) hx hb dL_law_1117 (by decide) (fun c278 => ?_) (fun c278 => ?_)
      · have b279 := hw_cmpeq (e277 ▸ c278)
        have b280 : (-11) = (-12) := hw_Leq b279
        refine lv_iinc (v := 6) (lv' := [(3, .int 6), (2, .ref mo), (1, .ref x), (0, .ref b)]) hx hb dL_law_1188 hl (k := 0) rfl (by rfl) (by decide) rfl (fun ls hl => ?_)
        refine lv_goto (tgt := 18) hx hb dL_law_1191 (by decide) ?_
        refine lv_iload_n hx hb dL_law_18 rfl (lv_at hl 0 rfl) ?_
        refine lv_aload_n hx hb dL_law_19 rfl (lv_at hl 3 rfl) ?_
        refine va_slen hx hb hX hbl hbA hS dL_law_20 ?_
        refine lv_bipush (v := 6) hx hb dL_law_21 (by decide) ?_
        refine lv_isub hx hb dL_law_23 ?_
        refine lv_topi (fun x281 e282 => ?_)
        have t283 : x281.toInt = (Int32.ofNat L).toInt - 6 := by rw [e282]; exact hw_sub rfl rfl (by omega) (by omega)
        refine lv_icmp_gt (tgt := 1194) hx hb dL_law_24 (by decide) (fun c284 => ?_) (fun c284 => ?_)
        · have b285 : x281.toInt < 6 := hw_ilt c284
          refine lv_iconst (v := 1) hx hb dL_law_1194 (by decide) ?_
          have hfg := hw_hfg hG0 (by decide) hS.2.2
          refine va_forget hfg ?_
          refine W.widen (k := 600000) (n := 7302250) (by decide) (by decide) ?_
          exact lw_ret hx hb hr hlocks dL_law_1195
        · have b286 : 6 ≤ x281.toInt := hw_inlt c284
          exfalso; omega
      · have b287 := hw_cmpneq (e277 ▸ c278)
        have b288 : (-11) ≠ (-12) := hw_Lne b287
        exfalso
        first | omega | contradiction | (subst_vars; omega)
    · refine W.lcmp hx hb dL_law_1116 ?_
      refine lv_topi (fun x289 e290 => ?_)
      refine lv_if_eq (tgt := 1188) hx hb dL_law_1117 (by decide) (fun c291 => ?_) (fun c291 => ?_)
      · have b292 := hw_cmpeq (e290 ▸ c291)
        have b293 : (-11) = (-16) := hw_Leq b292
        refine lv_iinc (v := 6) (lv' := [(3, .int 6), (2, .ref mo), (1, .ref x), (0, .ref b)]) hx hb dL_law_1188 hl (k := 0) rfl (by rfl) (by decide) rfl (fun ls hl => ?_)
        refine lv_goto (tgt := 18) hx hb dL_law_1191 (by decide) ?_
        refine lv_iload_n hx hb dL_law_18 rfl (lv_at hl 0 rfl) ?_
        refine lv_aload_n hx hb dL_law_19 rfl (lv_at hl 3 rfl) ?_
        refine va_slen hx hb hX hbl hbA hS dL_law_20 ?_
        refine lv_bipush (v := 6) hx hb dL_law_21 (by decide) ?_
        refine lv_isub hx hb dL_law_23 ?_
        refine lv_topi (fun x294 e295 => ?_)
        have t296 : x294.toInt = (Int32.ofNat L).toInt - 6 := by rw [e295]; exact hw_sub rfl rfl (by omega) (by omega)
        refine lv_icmp_gt (tgt := 1194) hx hb dL_law_24 (by decide) (fun c297 => ?_) (fun c297 => ?_)
        · have b298 : x294.toInt < 6 := hw_ilt c297
          refine lv_iconst (v := 1) hx hb dL_law_1194 (by decide) ?_
          have hfg := hw_hfg hG0 (by decide) hS.2.2
          refine va_forget hfg ?_
          refine W.widen (k := 600000) (n := 7302250) (by decide) (by decide) ?_
          exact lw_ret hx hb hr hlocks dL_law_1195
        · have b299 : 6 ≤ x294.toInt := hw_inlt c297
          exfalso; omega
      · have b300 := hw_cmpneq (e290 ▸ c291)
        have b301 : (-11) ≠ (-16) := hw_Lne b300
        exfalso
        first | omega | contradiction | (subst_vars; omega)
    · refine W.lcmp hx hb dL_law_1116 ?_
      refine lv_topi (fun x302 e303 => ?_)
      refine lv_if_eq (tgt := 1188) hx hb dL_law_1117 (by decide) (fun c304 => ?_) (fun c304 => ?_)
      · have b305 := hw_cmpeq (e303 ▸ c304)
        have b306 : (-11) = x232.toInt := hw_Leq b305
        refine lv_iinc (v := 6) (lv' := [(3, .int 6), (2, .ref mo), (1, .ref x), (0, .ref b)]) hx hb dL_law_1188 hl (k := 0) rfl (by rfl) (by decide) rfl (fun ls hl => ?_)
        refine lv_goto (tgt := 18) hx hb dL_law_1191 (by decide) ?_
        refine lv_iload_n hx hb dL_law_18 rfl (lv_at hl 0 rfl) ?_
        refine lv_aload_n hx hb dL_law_19 rfl (lv_at hl 3 rfl) ?_
        refine va_slen hx hb hX hbl hbA hS dL_law_20 ?_
        refine lv_bipush (v := 6) hx hb dL_law_21 (by decide) ?_
        refine lv_isub hx hb dL_law_23 ?_
        refine lv_topi (fun x307 e308 => ?_)
        have t309 : x307.toInt = (Int32.ofNat L).toInt - 6 := by rw [e308]; exact hw_sub rfl rfl (by omega) (by omega)
        refine lv_icmp_gt (tgt := 1194) hx hb dL_law_24 (by decide) (fun c310 => ?_) (fun c310 => ?_)
        · have b311 : x307.toInt < 6 := hw_ilt c310
          refine lv_iconst (v := 1) hx hb dL_law_1194 (by decide) ?_
          have hfg := hw_hfg hG0 (by decide) hS.2.2
          refine va_forget hfg ?_
          refine W.widen (k := 600000) (n := 7302250) (by decide) (by decide) ?_
          exact lw_ret hx hb hr hlocks dL_law_1195
        · have b312 : 6 ≤ x307.toInt := hw_inlt c310
          exfalso; omega
      · have b313 := hw_cmpneq (e303 ▸ c304)
        have b314 : (-11) ≠ x232.toInt := hw_Lne b313
        exfalso
        first | omega | contradiction | (subst_vars; omega)
  · refine lv_aload_n hx hb dL_law_1102 rfl (lv_at hl 1 rfl) ?_
    refine lv_aload_n hx hb dL_law_1103 rfl (lv_at hl 3 rfl) ?_
    refine lv_iload_n hx hb dL_law_1104 rfl (lv_at hl 0 rfl) ?_
    refine lv_iconst (v := 1) hx hb dL_law_1105 (by decide) ?_
    refine lv_iadd hx hb dL_law_1106 ?_
    refine W.eq (g2 := F0 m 1107 ls [.int 1, .ref b, .ref mo, .long (-12)]) rfl ?_
    refine va_sld hx hb hX hbl hbA hS (hw_in (x := 1) (by decide) (by have h9 : (1 : Int32).toInt = 1 := rfl; omega)) dL_law_1107 ?_
    refine W.eq (g2 := F0 m 1108 ls [.int (xs 1), .ref mo, .long (-12)]) rfl ?_
    refine lv_aload_n hx hb dL_law_1108 rfl (lv_at hl 3 rfl) ?_
    refine lv_iload_n hx hb dL_law_1109 rfl (lv_at hl 0 rfl) ?_
    refine lv_iconst (v := 2) hx hb dL_law_1110 (by decide) ?_
    refine lv_iadd hx hb dL_law_1111 ?_
    refine W.eq (g2 := F0 m 1112 ls [.int 2, .ref b, .int (xs 1), .ref mo, .long (-12)]) rfl ?_
    refine va_sld hx hb hX hbl hbA hS (hw_in (x := 2) (by decide) (by have h9 : (2 : Int32).toInt = 2 := rfl; omega)) dL_law_1112 ?_
    refine W.eq (g2 := F0 m 1113 ls [.int (xs 2), .int (xs 1), .ref mo, .long (-12)]) rfl ?_
    refine hw_cR (va_runV (As := [.int (xs 1), .int (xs 2)]) (rest := [.long (-12)]) ⟨hx, hb, hml, hown, hts⟩ (k_X12_share l D G1 mo (xs 1) (xs 2) _ rm 0 0 0 0 60 0 0 0 0 0 0 0 0 0 fla fsz gm Rm ⟨by first | decide | omega, by first | decide | omega⟩ ⟨by first | decide | omega, by first | decide | omega⟩ ⟨by first | decide | omega, by first | decide | omega⟩ ⟨by first | decide | omega, by first | decide | omega⟩ ⟨by first | decide | omega, by first | decide | omega⟩ ⟨by first | decide | omega, by first | decide | omega⟩ ⟨by first | decide | omega, by first | decide | omega⟩ ⟨by first | decide | omega, by first | decide | omega⟩ ⟨by first | decide | omega, by first | decide | omega⟩ ⟨by first | decide | omega, by first | decide | omega⟩ ⟨by first | decide | omega, by first | decide | omega⟩ ⟨by first | decide | omega, by first | decide | omega⟩ qsz) (cwV 2 hts gL_law_X12_share rfl rfl rfl (by decide +kernel) ⟨Nat.le_of_ble_eq_true rfl, Nat.le_of_ble_eq_true rfl⟩) (hw_pV (hw_rc (q := (RX12, TX12, 45)) hK vm rfl) hH hK hST hS (by decide) (hw_hG hGe1) ⟨vm, vla, vsz⟩) rfl rfl hl.1 rfl (lv_room (Nat.le_of_ble_eq_true rfl)) dL_law_1113 ⟨Nat.le_of_ble_eq_true rfl, Nat.le_of_ble_eq_true rfl⟩) (fun v hp => ?_)
    have l315 : (60 : Int32).toInt = 60 := rfl
    rcases hp with ⟨rfl, q316⟩ | ⟨rfl, q317, q318⟩ | ⟨rfl, q319, q320, q321⟩ | ⟨rfl, q322, q323, q324, q325⟩ | ⟨rfl, q326, q327, q328, q329⟩ | ⟨x330, rfl, q331, q332, q333, q334⟩
    · refine W.lcmp hx hb dL_law_1116 ?_
      refine lv_topi (fun x335 e336 => ?_)
      refine lv_if_eq (tgt := 1188) hx hb dL_law_1117 (by decide) (fun c337 => ?_) (fun c337 => ?_)
      · have b338 := hw_cmpeq (e336 ▸ c337)
        have b339 : (-12) = (-2) := hw_Leq b338
        refine lv_iinc (v := 6) (lv' := [(3, .int 6), (2, .ref mo), (1, .ref x), (0, .ref b)]) hx hb dL_law_1188 hl (k := 0) rfl (by rfl) (by decide) rfl (fun ls hl => ?_)
        refine lv_goto (tgt := 18) hx hb dL_law_1191 (by decide) ?_
        refine lv_iload_n hx hb dL_law_18 rfl (lv_at hl 0 rfl) ?_
        refine lv_aload_n hx hb dL_law_19 rfl (lv_at hl 3 rfl) ?_
        refine va_slen hx hb hX hbl hbA hS dL_law_20 ?_
        refine lv_bipush (v := 6) hx hb dL_law_21 (by decide) ?_
        refine lv_isub hx hb dL_law_23 ?_
        refine lv_topi (fun x340 e341 => ?_)
        have t342 : x340.toInt = (Int32.ofNat L).toInt - 6 := by rw [e341]; exact hw_sub rfl rfl (by omega) (by omega)
        refine lv_icmp_gt (tgt := 1194) hx hb dL_law_24 (by decide) (fun c343 => ?_) (fun c343 => ?_)
        · have b344 : x340.toInt < 6 := hw_ilt c343
          refine lv_iconst (v := 1) hx hb dL_law_1194 (by decide) ?_
          have hfg := hw_hfg hG0 (by decide) hS.2.2
          refine va_forget hfg ?_
          refine W.widen (k := 600000) (n := 7302250) (by decide) (by decide) ?_
          exact lw_ret hx hb hr hlocks dL_law_1195
        · have b345 : 6 ≤ x340.toInt := hw_inlt c343
          exfalso; omega
      · have b346 := hw_cmpneq (e336 ▸ c337)
        have b347 : (-12) ≠ (-2) := hw_Lne b346
        exfalso
        first | omega | contradiction | (subst_vars; omega)
    · refine W.lcmp hx hb dL_law_1116 ?_
      refine lv_topi (fun x348 e349 => ?_)
      refine lv_if_eq (tgt := 1188) hx hb dL_law_1117 (by decide) (fun c350 => ?_) (fun c350 => ?_)
      · have b351 := hw_cmpeq (e349 ▸ c350)
        have b352 : (-12) = (-3) := hw_Leq b351
        refine lv_iinc (v := 6) (lv' := [(3, .int 6), (2, .ref mo), (1, .ref x), (0, .ref b)]) hx hb dL_law_1188 hl (k := 0) rfl (by rfl) (by decide) rfl (fun ls hl => ?_)
        refine lv_goto (tgt := 18) hx hb dL_law_1191 (by decide) ?_
        refine lv_iload_n hx hb dL_law_18 rfl (lv_at hl 0 rfl) ?_
        refine lv_aload_n hx hb dL_law_19 rfl (lv_at hl 3 rfl) ?_
        refine va_slen hx hb hX hbl hbA hS dL_law_20 ?_
        refine lv_bipush (v := 6) hx hb dL_law_21 (by decide) ?_
        refine lv_isub hx hb dL_law_23 ?_
        refine lv_topi (fun x353 e354 => ?_)
        have t355 : x353.toInt = (Int32.ofNat L).toInt - 6 := by rw [e354]; exact hw_sub rfl rfl (by omega) (by omega)
        refine lv_icmp_gt (tgt := 1194) hx hb dL_law_24 (by decide) (fun c356 => ?_) (fun c356 => ?_)
        · have b357 : x353.toInt < 6 := hw_ilt c356
          refine lv_iconst (v := 1) hx hb dL_law_1194 (by decide) ?_
          have hfg := hw_hfg hG0 (by decide) hS.2.2
          refine va_forget hfg ?_
          refine W.widen (k := 600000) (n := 7302250) (by decide) (by decide) ?_
          exact lw_ret hx hb hr hlocks dL_law_1195
        · have b358 : 6 ≤ x353.toInt := hw_inlt c356
          exfalso; omega
      · have b359 := hw_cmpneq (e349 ▸ c350)
        have b360 : (-12) ≠ (-3) := hw_Lne b359
        exfalso
        first | omega | contradiction | (subst_vars; omega)
    · refine W.lcmp hx hb dL_law_1116 ?_
      refine lv_topi (fun x361 e362 => ?_)
      refine lv_if_eq (tgt := 1188) hx hb dL_law_1117 (by decide) (fun c363 => ?_) (fun c363 => ?_)
      · have b364 := hw_cmpeq (e362 ▸ c363)
        have b365 : (-12) = (-11) := hw_Leq b364
        refine lv_iinc (v := 6) (lv' := [(3, .int 6), (2, .ref mo), (1, .ref x), (0, .ref b)]) hx hb dL_law_1188 hl (k := 0) rfl (by rfl) (by decide) rfl (fun ls hl => ?_)
        refine lv_goto (tgt := 18) hx hb dL_law_1191 (by decide) ?_
        refine lv_iload_n hx hb dL_law_18 rfl (lv_at hl 0 rfl) ?_
        refine lv_aload_n hx hb dL_law_19 rfl (lv_at hl 3 rfl) ?_
        refine va_slen hx hb hX hbl hbA hS dL_law_20 ?_
        refine lv_bipush (v := 6) hx hb dL_law_21 (by decide) ?_
        refine lv_isub hx hb dL_law_23 ?_
        refine lv_topi (fun x366 e367 => ?_)
        have t368 : x366.toInt = (Int32.ofNat L).toInt - 6 := by rw [e367]; exact hw_sub rfl rfl (by omega) (by omega)
        refine lv_icmp_gt (tgt := 1194) hx hb dL_law_24 (by decide) (fun c369 => ?_) (fun c369 => ?_)
        · have b370 : x366.toInt < 6 := hw_ilt c369
          refine lv_iconst (v := 1) hx hb dL_law_1194 (by decide) ?_
          have hfg := hw_hfg hG0 (by decide) hS.2.2
          refine va_forget hfg ?_
          refine W.widen (k := 600000) (n := 7302250) (by decide) (by decide) ?_
          exact lw_ret hx hb hr hlocks dL_law_1195
        · have b371 : 6 ≤ x366.toInt := hw_inlt c369
          exfalso; omega
      · have b372 := hw_cmpneq (e362 ▸ c363)
        have b373 : (-12) ≠ (-11) := hw_Lne b372
        exfalso
        first | omega | contradiction | (subst_vars; omega)
    · refine W.lcmp hx hb dL_law_1116 ?_
      refine lv_topi (fun x374 e375 => ?_)
      refine lv_if_eq (tgt := 1188) hx hb dL_law_1117 (by decide) (fun c376 => ?_) (fun c376 => ?_)
      · have b377 := hw_cmpeq (e375 ▸ c376)
        have b378 : (-12) = (-12) := hw_Leq b377
        refine lv_iinc (v := 6) (lv' := [(3, .int 6), (2, .ref mo), (1, .ref x), (0, .ref b)]) hx hb dL_law_1188 hl (k := 0) rfl (by rfl) (by decide) rfl (fun ls hl => ?_)
        refine lv_goto (tgt := 18) hx hb dL_law_1191 (by decide) ?_
        refine lv_iload_n hx hb dL_law_18 rfl (lv_at hl 0 rfl) ?_
        refine lv_aload_n hx hb dL_law_19 rfl (lv_at hl 3 rfl) ?_
        refine va_slen hx hb hX hbl hbA hS dL_law_20 ?_
        refine lv_bipush (v := 6) hx hb dL_law_21 (by decide) ?_
        refine lv_isub hx hb dL_law_23 ?_
        refine lv_topi (fun x379 e380 => ?_)
        have t381 : x379.toInt = (Int32.ofNat L).toInt - 6 := by rw [e380]; exact hw_sub rfl rfl (by omega) (by omega)
        refine lv_icmp_gt (tgt := 1194) hx hb dL_law_24 (by decide) (fun c382 => ?_) (fun c382 => ?_)
        · have b383 : x379.toInt < 6 := hw_ilt c382
          refine lv_iconst (v := 1) hx hb dL_law_1194 (by decide) ?_
          have hfg := hw_hfg hG0 (by decide) hS.2.2
          refine va_forget hfg ?_
          refine W.widen (k := 600000) (n := 7302250) (by decide) (by decide) ?_
          exact lw_ret hx hb hr hlocks dL_law_1195
        · have b384 : 6 ≤ x379.toInt := hw_inlt c382
          exfalso; omega
      · have b385 := hw_cmpneq (e375 ▸ c376)
        have b386 : (-12) ≠ (-12) := hw_Lne b385
        exfalso
        first | omega | contradiction | (subst_vars; omega)
    · refine W.lcmp hx hb dL_law_1116 ?_
      refine lv_topi (fun x387 e388 => ?_)
      refine lv_if_eq (tgt := 1188) hx hb dL_law_1117 (by decide) (fun c389 => ?_) (fun c389 => ?_)
      · have b390 := hw_cmpeq (e388 ▸ c389)
        have b391 : (-12) = (-16) := hw_Leq b390
        refine lv_iinc (v := 6) (lv' := [(3, .int 6), (2, .ref mo), (1, .ref x), (0, .ref b)]) hx hb dL_law_1188 hl (k := 0) rfl (by rfl) (by decide) rfl (fun ls hl => ?_)
        refine lv_goto (tgt := 18) hx hb dL_law_1191 (by decide) ?_
        refine lv_iload_n hx hb dL_law_18 rfl (lv_at hl 0 rfl) ?_
        refine lv_aload_n hx hb dL_law_19 rfl (lv_at hl 3 rfl) ?_
        refine va_slen hx hb hX hbl hbA hS dL_law_20 ?_
        refine lv_bipush (v := 6) hx hb dL_law_21 (by decide) ?_
        refine lv_isub hx hb dL_law_23 ?_
        refine lv_topi (fun x392 e393 => ?_)
        have t394 : x392.toInt = (Int32.ofNat L).toInt - 6 := by rw [e393]; exact hw_sub rfl rfl (by omega) (by omega)
        refine lv_icmp_gt (tgt := 1194) hx hb dL_law_24 (by decide) (fun c395 => ?_) (fun c395 => ?_)
        · have b396 : x392.toInt < 6 := hw_ilt c395
          refine lv_iconst (v := 1) hx hb dL_law_1194 (by decide) ?_
          have hfg := hw_hfg hG0 (by decide) hS.2.2
          refine va_forget hfg ?_
          refine W.widen (k := 600000) (n := 7302250) (by decide) (by decide) ?_
          exact lw_ret hx hb hr hlocks dL_law_1195
        · have b397 : 6 ≤ x392.toInt := hw_inlt c395
          exfalso; omega
      · have b398 := hw_cmpneq (e388 ▸ c389)
        have b399 : (-12) ≠ (-16) := hw_Lne b398
        exfalso
        first | omega | contradiction | (subst_vars; omega)
    · refine W.lcmp hx hb dL_law_1116 ?_
      refine lv_topi (fun x400 e401 => ?_)
      refine lv_if_eq (tgt := 1188) hx hb dL_law_1117 (by decide) (fun c402 => ?_) (fun c402 => ?_)
      · have b403 := hw_cmpeq (e401 ▸ c402)
        have b404 : (-12) = x330.toInt := hw_Leq b403
        refine lv_iinc (v := 6) (lv' := [(3, .int 6), (2, .ref mo), (1, .ref x), (0, .ref b)]) hx hb dL_law_1188 hl (k := 0) rfl (by rfl) (by decide) rfl (fun ls hl => ?_)
        refine lv_goto (tgt := 18) hx hb dL_law_1191 (by decide) ?_
        refine lv_iload_n hx hb dL_law_18 rfl (lv_at hl 0 rfl) ?_
        refine lv_aload_n hx hb dL_law_19 rfl (lv_at hl 3 rfl) ?_
        refine va_slen hx hb hX hbl hbA hS dL_law_20 ?_
        refine lv_bipush (v := 6) hx hb dL_law_21 (by decide) ?_
        refine lv_isub hx hb dL_law_23 ?_
        refine lv_topi (fun x405 e406 => ?_)
        have t407 : x405.toInt = (Int32.ofNat L).toInt - 6 := by rw [e406]; exact hw_sub rfl rfl (by omega) (by omega)
        refine lv_icmp_gt (tgt := 1194) hx hb dL_law_24 (by decide) (fun c408 => ?_) (fun c408 => ?_)
        · have b409 : x405.toInt < 6 := hw_ilt c408
          refine lv_iconst (v := 1) hx hb dL_law_1194 (by decide) ?_
          have hfg := hw_hfg hG0 (by decide) hS.2.2
          refine va_forget hfg ?_
          refine W.widen (k := 600000) (n := 7302250) (by decide) (by decide) ?_
          exact lw_ret hx hb hr hlocks dL_law_1195
        · have b410 : 6 ≤ x405.toInt := hw_inlt c408
          exfalso; omega
      · have b411 := hw_cmpneq (e401 ▸ c402)
        have b412 : (-12) ≠ x330.toInt := hw_Lne b411
        exfalso
        first | omega | contradiction | (subst_vars; omega)
  · refine lv_aload_n hx hb dL_law_1102 rfl (lv_at hl 1 rfl) ?_
    refine lv_aload_n hx hb dL_law_1103 rfl (lv_at hl 3 rfl) ?_
    refine lv_iload_n hx hb dL_law_1104 rfl (lv_at hl 0 rfl) ?_
    refine lv_iconst (v := 1) hx hb dL_law_1105 (by decide) ?_
    refine lv_iadd hx hb dL_law_1106 ?_
    refine W.eq (g2 := F0 m 1107 ls [.int 1, .ref b, .ref mo, .long (-16)]) rfl ?_
    refine va_sld hx hb hX hbl hbA hS (hw_in (x := 1) (by decide) (by have h9 : (1 : Int32).toInt = 1 := rfl; omega)) dL_law_1107 ?_
    refine W.eq (g2 := F0 m 1108 ls [.int (xs 1), .ref mo, .long (-16)]) rfl ?_
    refine lv_aload_n hx hb dL_law_1108 rfl (lv_at hl 3 rfl) ?_
    refine lv_iload_n hx hb dL_law_1109 rfl (lv_at hl 0 rfl) ?_
    refine lv_iconst (v := 2) hx hb dL_law_1110 (by decide) ?_
    refine lv_iadd hx hb dL_law_1111 ?_
    refine W.eq (g2 := F0 m 1112 ls [.int 2, .ref b, .int (xs 1), .ref mo, .long (-16)]) rfl ?_
    refine va_sld hx hb hX hbl hbA hS (hw_in (x := 2) (by decide) (by have h9 : (2 : Int32).toInt = 2 := rfl; omega)) dL_law_1112 ?_
    refine W.eq (g2 := F0 m 1113 ls [.int (xs 2), .int (xs 1), .ref mo, .long (-16)]) rfl ?_
    refine hw_cR (va_runV (As := [.int (xs 1), .int (xs 2)]) (rest := [.long (-16)]) ⟨hx, hb, hml, hown, hts⟩ (k_X12_share l D G1 mo (xs 1) (xs 2) _ rm 0 0 0 0 60 0 0 0 0 0 0 0 0 0 fla fsz gm Rm ⟨by first | decide | omega, by first | decide | omega⟩ ⟨by first | decide | omega, by first | decide | omega⟩ ⟨by first | decide | omega, by first | decide | omega⟩ ⟨by first | decide | omega, by first | decide | omega⟩ ⟨by first | decide | omega, by first | decide | omega⟩ ⟨by first | decide | omega, by first | decide | omega⟩ ⟨by first | decide | omega, by first | decide | omega⟩ ⟨by first | decide | omega, by first | decide | omega⟩ ⟨by first | decide | omega, by first | decide | omega⟩ ⟨by first | decide | omega, by first | decide | omega⟩ ⟨by first | decide | omega, by first | decide | omega⟩ ⟨by first | decide | omega, by first | decide | omega⟩ qsz) (cwV 2 hts gL_law_X12_share rfl rfl rfl (by decide +kernel) ⟨Nat.le_of_ble_eq_true rfl, Nat.le_of_ble_eq_true rfl⟩) (hw_pV (hw_rc (q := (RX12, TX12, 45)) hK vm rfl) hH hK hST hS (by decide) (hw_hG hGe1) ⟨vm, vla, vsz⟩) rfl rfl hl.1 rfl (lv_room (Nat.le_of_ble_eq_true rfl)) dL_law_1113 ⟨Nat.le_of_ble_eq_true rfl, Nat.le_of_ble_eq_true rfl⟩) (fun v hp => ?_)
    have l413 : (60 : Int32).toInt = 60 := rfl
    rcases hp with ⟨rfl, q414⟩ | ⟨rfl, q415, q416⟩ | ⟨rfl, q417, q418, q419⟩ | ⟨rfl, q420, q421, q422, q423⟩ | ⟨rfl, q424, q425, q426, q427⟩ | ⟨x428, rfl, q429, q430, q431, q432⟩
    · refine W.lcmp hx hb dL_law_1116 ?_
      refine lv_topi (fun x433 e434 => ?_)
      refine lv_if_eq (tgt := 1188) hx hb dL_law_1117 (by decide) (fun c435 => ?_) (fun c435 => ?_)
      · have b436 := hw_cmpeq (e434 ▸ c435)
        have b437 : (-16) = (-2) := hw_Leq b436
        refine lv_iinc (v := 6) (lv' := [(3, .int 6), (2, .ref mo), (1, .ref x), (0, .ref b)]) hx hb dL_law_1188 hl (k := 0) rfl (by rfl) (by decide) rfl (fun ls hl => ?_)
        refine lv_goto (tgt := 18) hx hb dL_law_1191 (by decide) ?_
        refine lv_iload_n hx hb dL_law_18 rfl (lv_at hl 0 rfl) ?_
        refine lv_aload_n hx hb dL_law_19 rfl (lv_at hl 3 rfl) ?_
        refine va_slen hx hb hX hbl hbA hS dL_law_20 ?_
        refine lv_bipush (v := 6) hx hb dL_law_21 (by decide) ?_
        refine lv_isub hx hb dL_law_23 ?_
        refine lv_topi (fun x438 e439 => ?_)
        have t440 : x438.toInt = (Int32.ofNat L).toInt - 6 := by rw [e439]; exact hw_sub rfl rfl (by omega) (by omega)
        refine lv_icmp_gt (tgt := 1194) hx hb dL_law_24 (by decide) (fun c441 => ?_) (fun c441 => ?_)
        · have b442 : x438.toInt < 6 := hw_ilt c441
          refine lv_iconst (v := 1) hx hb dL_law_1194 (by decide) ?_
          have hfg := hw_hfg hG0 (by decide) hS.2.2
          refine va_forget hfg ?_
          refine W.widen (k := 600000) (n := 7302250) (by decide) (by decide) ?_
          exact lw_ret hx hb hr hlocks dL_law_1195
        · have b443 : 6 ≤ x438.toInt := hw_inlt c441
          exfalso; omega
      · have b444 := hw_cmpneq (e434 ▸ c435)
        have b445 : (-16) ≠ (-2) := hw_Lne b444
        exfalso
        first | omega | contradiction | (subst_vars; omega)
    · refine W.lcmp hx hb dL_law_1116 ?_
      refine lv_topi (fun x446 e447 => ?_)
      refine lv_if_eq (tgt := 1188) hx hb dL_law_1117 (by decide) (fun c448 => ?_) (fun c448 => ?_)
      · have b449 := hw_cmpeq (e447 ▸ c448)
        have b450 : (-16) = (-3) := hw_Leq b449
        refine lv_iinc (v := 6) (lv' := [(3, .int 6), (2, .ref mo), (1, .ref x), (0, .ref b)]) hx hb dL_law_1188 hl (k := 0) rfl (by rfl) (by decide) rfl (fun ls hl => ?_)
        refine lv_goto (tgt := 18) hx hb dL_law_1191 (by decide) ?_
        refine lv_iload_n hx hb dL_law_18 rfl (lv_at hl 0 rfl) ?_
        refine lv_aload_n hx hb dL_law_19 rfl (lv_at hl 3 rfl) ?_
        refine va_slen hx hb hX hbl hbA hS dL_law_20 ?_
        refine lv_bipush (v := 6) hx hb dL_law_21 (by decide) ?_
        refine lv_isub hx hb dL_law_23 ?_
        refine lv_topi (fun x451 e452 => ?_)
        have t453 : x451.toInt = (Int32.ofNat L).toInt - 6 := by rw [e452]; exact hw_sub rfl rfl (by omega) (by omega)
        refine lv_icmp_gt (tgt := 1194) hx hb dL_law_24 (by decide) (fun c454 => ?_) (fun c454 => ?_)
        · have b455 : x451.toInt < 6 := hw_ilt c454
          refine lv_iconst (v := 1) hx hb dL_law_1194 (by decide) ?_
          have hfg := hw_hfg hG0 (by decide) hS.2.2
          refine va_forget hfg ?_
          refine W.widen (k := 600000) (n := 7302250) (by decide) (by decide) ?_
          exact lw_ret hx hb hr hlocks dL_law_1195
        · have b456 : 6 ≤ x451.toInt := hw_inlt c454
          exfalso; omega
      · have b457 := hw_cmpneq (e447 ▸ c448)
        have b458 : (-16) ≠ (-3) := hw_Lne b457
        exfalso
        first | omega | contradiction | (subst_vars; omega)
    · refine W.lcmp hx hb dL_law_1116 ?_
      refine lv_topi (fun x459 e460 => ?_)
      refine lv_if_eq (tgt := 1188) hx hb dL_law_1117 (by decide) (fun c461 => ?_) (fun c461 => ?_)
      · have b462 := hw_cmpeq (e460 ▸ c461)
        have b463 : (-16) = (-11) := hw_Leq b462
        refine lv_iinc (v := 6) (lv' := [(3, .int 6), (2, .ref mo), (1, .ref x), (0, .ref b)]) hx hb dL_law_1188 hl (k := 0) rfl (by rfl) (by decide) rfl (fun ls hl => ?_)
        refine lv_goto (tgt := 18) hx hb dL_law_1191 (by decide) ?_
        refine lv_iload_n hx hb dL_law_18 rfl (lv_at hl 0 rfl) ?_
        refine lv_aload_n hx hb dL_law_19 rfl (lv_at hl 3 rfl) ?_
        refine va_slen hx hb hX hbl hbA hS dL_law_20 ?_
        refine lv_bipush (v := 6) hx hb dL_law_21 (by decide) ?_
        refine lv_isub hx hb dL_law_23 ?_
        refine lv_topi (fun x464 e465 => ?_)
        have t466 : x464.toInt = (Int32.ofNat L).toInt - 6 := by rw [e465]; exact hw_sub rfl rfl (by omega) (by omega)
        refine lv_icmp_gt (tgt := 1194) hx hb dL_law_24 (by decide) (fun c467 => ?_) (fun c467 => ?_)
        · have b468 : x464.toInt < 6 := hw_ilt c467
          refine lv_iconst (v := 1) hx hb dL_law_1194 (by decide) ?_
          have hfg := hw_hfg hG0 (by decide) hS.2.2
          refine va_forget hfg ?_
          refine W.widen (k := 600000) (n := 7302250) (by decide) (by decide) ?_
          exact lw_ret hx hb hr hlocks dL_law_1195
        · have b469 : 6 ≤ x464.toInt := hw_inlt c467
          exfalso; omega
      · have b470 := hw_cmpneq (e460 ▸ c461)
        have b471 : (-16) ≠ (-11) := hw_Lne b470
        exfalso
        first | omega | contradiction | (subst_vars; omega)
    · refine W.lcmp hx hb dL_law_1116 ?_
      refine lv_topi (fun x472 e473 => ?_)
      refine lv_if_eq (tgt := 1188) hx hb dL_law_1117 (by decide) (fun c474 => ?_) (fun c474 => ?_)
      · have b475 := hw_cmpeq (e473 ▸ c474)
        have b476 : (-16) = (-12) := hw_Leq b475
        refine lv_iinc (v := 6) (lv' := [(3, .int 6), (2, .ref mo), (1, .ref x), (0, .ref b)]) hx hb dL_law_1188 hl (k := 0) rfl (by rfl) (by decide) rfl (fun ls hl => ?_)
        refine lv_goto (tgt := 18) hx hb dL_law_1191 (by decide) ?_
        refine lv_iload_n hx hb dL_law_18 rfl (lv_at hl 0 rfl) ?_
        refine lv_aload_n hx hb dL_law_19 rfl (lv_at hl 3 rfl) ?_
        refine va_slen hx hb hX hbl hbA hS dL_law_20 ?_
        refine lv_bipush (v := 6) hx hb dL_law_21 (by decide) ?_
        refine lv_isub hx hb dL_law_23 ?_
        refine lv_topi (fun x477 e478 => ?_)
        have t479 : x477.toInt = (Int32.ofNat L).toInt - 6 := by rw [e478]; exact hw_sub rfl rfl (by omega) (by omega)
        refine lv_icmp_gt (tgt := 1194) hx hb dL_law_24 (by decide) (fun c480 => ?_) (fun c480 => ?_)
        · have b481 : x477.toInt < 6 := hw_ilt c480
          refine lv_iconst (v := 1) hx hb dL_law_1194 (by decide) ?_
          have hfg := hw_hfg hG0 (by decide) hS.2.2
          refine va_forget hfg ?_
          refine W.widen (k := 600000) (n := 7302250) (by decide) (by decide) ?_
          exact lw_ret hx hb hr hlocks dL_law_1195
        · have b482 : 6 ≤ x477.toInt := hw_inlt c480
          exfalso; omega
      · have b483 := hw_cmpneq (e473 ▸ c474)
        have b484 : (-16) ≠ (-12) := hw_Lne b483
        exfalso
        first | omega | contradiction | (subst_vars; omega)
    · refine W.lcmp hx hb dL_law_1116 ?_
      refine lv_topi (fun x485 e486 => ?_)
      refine lv_if_eq (tgt := 1188) hx hb dL_law_1117 (by decide) (fun c487 => ?_) (fun c487 => ?_)
      · have b488 := hw_cmpeq (e486 ▸ c487)
        have b489 : (-16) = (-16) := hw_Leq b488
        refine lv_iinc (v := 6) (lv' := [(3, .int 6), (2, .ref mo), (1, .ref x), (0, .ref b)]) hx hb dL_law_1188 hl (k := 0) rfl (by rfl) (by decide) rfl (fun ls hl => ?_)
        refine lv_goto (tgt := 18) hx hb dL_law_1191 (by decide) ?_
        refine lv_iload_n hx hb dL_law_18 rfl (lv_at hl 0 rfl) ?_
        refine lv_aload_n hx hb dL_law_19 rfl (lv_at hl 3 rfl) ?_
        refine va_slen hx hb hX hbl hbA hS dL_law_20 ?_
        refine lv_bipush (v := 6) hx hb dL_law_21 (by decide) ?_
        refine lv_isub hx hb dL_law_23 ?_
        refine lv_topi (fun x490 e491 => ?_)
        have t492 : x490.toInt = (Int32.ofNat L).toInt - 6 := by rw [e491]; exact hw_sub rfl rfl (by omega) (by omega)
        refine lv_icmp_gt (tgt := 1194) hx hb dL_law_24 (by decide) (fun c493 => ?_) (fun c493 => ?_)
        · have b494 : x490.toInt < 6 := hw_ilt c493
          refine lv_iconst (v := 1) hx hb dL_law_1194 (by decide) ?_
          have hfg := hw_hfg hG0 (by decide) hS.2.2
          refine va_forget hfg ?_
          refine W.widen (k := 600000) (n := 7302250) (by decide) (by decide) ?_
          exact lw_ret hx hb hr hlocks dL_law_1195
        · have b495 : 6 ≤ x490.toInt := hw_inlt c493
          exfalso; omega
      · have b496 := hw_cmpneq (e486 ▸ c487)
        have b497 : (-16) ≠ (-16) := hw_Lne b496
        exfalso
        first | omega | contradiction | (subst_vars; omega)
    · refine W.lcmp hx hb dL_law_1116 ?_
      refine lv_topi (fun x498 e499 => ?_)
      refine lv_if_eq (tgt := 1188) hx hb dL_law_1117 (by decide) (fun c500 => ?_) (fun c500 => ?_)
      · have b501 := hw_cmpeq (e499 ▸ c500)
        have b502 : (-16) = x428.toInt := hw_Leq b501
        refine lv_iinc (v := 6) (lv' := [(3, .int 6), (2, .ref mo), (1, .ref x), (0, .ref b)]) hx hb dL_law_1188 hl (k := 0) rfl (by rfl) (by decide) rfl (fun ls hl => ?_)
        refine lv_goto (tgt := 18) hx hb dL_law_1191 (by decide) ?_
        refine lv_iload_n hx hb dL_law_18 rfl (lv_at hl 0 rfl) ?_
        refine lv_aload_n hx hb dL_law_19 rfl (lv_at hl 3 rfl) ?_
        refine va_slen hx hb hX hbl hbA hS dL_law_20 ?_
        refine lv_bipush (v := 6) hx hb dL_law_21 (by decide) ?_
        refine lv_isub hx hb dL_law_23 ?_
        refine lv_topi (fun x503 e504 => ?_)
        have t505 : x503.toInt = (Int32.ofNat L).toInt - 6 := by rw [e504]; exact hw_sub rfl rfl (by omega) (by omega)
        refine lv_icmp_gt (tgt := 1194) hx hb dL_law_24 (by decide) (fun c506 => ?_) (fun c506 => ?_)
        · have b507 : x503.toInt < 6 := hw_ilt c506
          refine lv_iconst (v := 1) hx hb dL_law_1194 (by decide) ?_
          have hfg := hw_hfg hG0 (by decide) hS.2.2
          refine va_forget hfg ?_
          refine W.widen (k := 600000) (n := 7302250) (by decide) (by decide) ?_
          exact lw_ret hx hb hr hlocks dL_law_1195
        · have b508 : 6 ≤ x503.toInt := hw_inlt c506
          exfalso; omega
      · have b509 := hw_cmpneq (e499 ▸ c500)
        have b510 : (-16) ≠ x428.toInt := hw_Lne b509
        exfalso
        first | omega | contradiction | (subst_vars; omega)
  · refine lv_aload_n hx hb dL_law_1102 rfl (lv_at hl 1 rfl) ?_
    refine lv_aload_n hx hb dL_law_1103 rfl (lv_at hl 3 rfl) ?_
    refine lv_iload_n hx hb dL_law_1104 rfl (lv_at hl 0 rfl) ?_
    refine lv_iconst (v := 1) hx hb dL_law_1105 (by decide) ?_
    refine lv_iadd hx hb dL_law_1106 ?_
    refine W.eq (g2 := F0 m 1107 ls [.int 1, .ref b, .ref mo, .long x16]) rfl ?_
    refine va_sld hx hb hX hbl hbA hS (hw_in (x := 1) (by decide) (by have h9 : (1 : Int32).toInt = 1 := rfl; omega)) dL_law_1107 ?_
    refine W.eq (g2 := F0 m 1108 ls [.int (xs 1), .ref mo, .long x16]) rfl ?_
    refine lv_aload_n hx hb dL_law_1108 rfl (lv_at hl 3 rfl) ?_
    refine lv_iload_n hx hb dL_law_1109 rfl (lv_at hl 0 rfl) ?_
    refine lv_iconst (v := 2) hx hb dL_law_1110 (by decide) ?_
    refine lv_iadd hx hb dL_law_1111 ?_
    refine W.eq (g2 := F0 m 1112 ls [.int 2, .ref b, .int (xs 1), .ref mo, .long x16]) rfl ?_
    refine va_sld hx hb hX hbl hbA hS (hw_in (x := 2) (by decide) (by have h9 : (2 : Int32).toInt = 2 := rfl; omega)) dL_law_1112 ?_
    refine W.eq (g2 := F0 m 1113 ls [.int (xs 2), .int (xs 1), .ref mo, .long x16]) rfl ?_
    refine hw_cR (va_runV (As := [.int (xs 1), .int (xs 2)]) (rest := [.long x16]) ⟨hx, hb, hml, hown, hts⟩ (k_X12_share l D G1 mo (xs 1) (xs 2) _ rm 0 0 0 0 60 0 0 0 0 0 0 0 0 0 fla fsz gm Rm ⟨by first | decide | omega, by first | decide | omega⟩ ⟨by first | decide | omega, by first | decide | omega⟩ ⟨by first | decide | omega, by first | decide | omega⟩ ⟨by first | decide | omega, by first | decide | omega⟩ ⟨by first | decide | omega, by first | decide | omega⟩ ⟨by first | decide | omega, by first | decide | omega⟩ ⟨by first | decide | omega, by first | decide | omega⟩ ⟨by first | decide | omega, by first | decide | omega⟩ ⟨by first | decide | omega, by first | decide | omega⟩ ⟨by first | decide | omega, by first | decide | omega⟩ ⟨by first | decide | omega, by first | decide | omega⟩ ⟨by first | decide | omega, by first | decide | omega⟩ qsz) (cwV 2 hts gL_law_X12_share rfl rfl rfl (by decide +kernel) ⟨Nat.le_of_ble_eq_true rfl, Nat.le_of_ble_eq_true rfl⟩) (hw_pV (hw_rc (q := (RX12, TX12, 45)) hK vm rfl) hH hK hST hS (by decide) (hw_hG hGe1) ⟨vm, vla, vsz⟩) rfl rfl hl.1 rfl (lv_room (Nat.le_of_ble_eq_true rfl)) dL_law_1113 ⟨Nat.le_of_ble_eq_true rfl, Nat.le_of_ble_eq_true rfl⟩) (fun v hp => ?_)
    have l511 : (60 : Int32).toInt = 60 := rfl
    rcases hp with ⟨rfl, q512⟩ | ⟨rfl, q513, q514⟩ | ⟨rfl, q515, q516, q517⟩ | ⟨rfl, q518, q519, q520, q521⟩ | ⟨rfl, q522, q523, q524, q525⟩ | ⟨x526, rfl, q527, q528, q529, q530⟩
    · refine W.lcmp hx hb dL_law_1116 ?_
      refine lv_topi (fun x531 e532 => ?_)
      refine lv_if_eq (tgt := 1188) hx hb dL_law_1117 (by decide) (fun c533 => ?_) (fun c533 => ?_)
      · have b534 := hw_cmpeq (e532 ▸ c533)
        have b535 : x16.toInt = (-2) := hw_Leq b534
        refine lv_iinc (v := 6) (lv' := [(3, .int 6), (2, .ref mo), (1, .ref x), (0, .ref b)]) hx hb dL_law_1188 hl (k := 0) rfl (by rfl) (by decide) rfl (fun ls hl => ?_)
        refine lv_goto (tgt := 18) hx hb dL_law_1191 (by decide) ?_
        refine lv_iload_n hx hb dL_law_18 rfl (lv_at hl 0 rfl) ?_
        refine lv_aload_n hx hb dL_law_19 rfl (lv_at hl 3 rfl) ?_
        refine va_slen hx hb hX hbl hbA hS dL_law_20 ?_
        refine lv_bipush (v := 6) hx hb dL_law_21 (by decide) ?_
        refine lv_isub hx hb dL_law_23 ?_
        refine lv_topi (fun x536 e537 => ?_)
        have t538 : x536.toInt = (Int32.ofNat L).toInt - 6 := by rw [e537]; exact hw_sub rfl rfl (by omega) (by omega)
        refine lv_icmp_gt (tgt := 1194) hx hb dL_law_24 (by decide) (fun c539 => ?_) (fun c539 => ?_)
        · have b540 : x536.toInt < 6 := hw_ilt c539
          refine lv_iconst (v := 1) hx hb dL_law_1194 (by decide) ?_
          have hfg := hw_hfg hG0 (by decide) hS.2.2
          refine va_forget hfg ?_
          refine W.widen (k := 600000) (n := 7302250) (by decide) (by decide) ?_
          exact lw_ret hx hb hr hlocks dL_law_1195
        · have b541 : 6 ≤ x536.toInt := hw_inlt c539
          exfalso; omega
      · have b542 := hw_cmpneq (e532 ▸ c533)
        have b543 : x16.toInt ≠ (-2) := hw_Lne b542
        exfalso
        first | omega | contradiction | (subst_vars; omega)
    · refine W.lcmp hx hb dL_law_1116 ?_
      refine lv_topi (fun x544 e545 => ?_)
      refine lv_if_eq (tgt := 1188) hx hb dL_law_1117 (by decide) (fun c546 => ?_) (fun c546 => ?_)
      · have b547 := hw_cmpeq (e545 ▸ c546)
        have b548 : x16.toInt = (-3) := hw_Leq b547
        refine lv_iinc (v := 6) (lv' := [(3, .int 6), (2, .ref mo), (1, .ref x), (0, .ref b)]) hx hb dL_law_1188 hl (k := 0) rfl (by rfl) (by decide) rfl (fun ls hl => ?_)
        refine lv_goto (tgt := 18) hx hb dL_law_1191 (by decide) ?_
        refine lv_iload_n hx hb dL_law_18 rfl (lv_at hl 0 rfl) ?_
        refine lv_aload_n hx hb dL_law_19 rfl (lv_at hl 3 rfl) ?_
        refine va_slen hx hb hX hbl hbA hS dL_law_20 ?_
        refine lv_bipush (v := 6) hx hb dL_law_21 (by decide) ?_
        refine lv_isub hx hb dL_law_23 ?_
        refine lv_topi (fun x549 e550 => ?_)
        have t551 : x549.toInt = (Int32.ofNat L).toInt - 6 := by rw [e550]; exact hw_sub rfl rfl (by omega) (by omega)
        refine lv_icmp_gt (tgt := 1194) hx hb dL_law_24 (by decide) (fun c552 => ?_) (fun c552 => ?_)
        · have b553 : x549.toInt < 6 := hw_ilt c552
          refine lv_iconst (v := 1) hx hb dL_law_1194 (by decide) ?_
          have hfg := hw_hfg hG0 (by decide) hS.2.2
          refine va_forget hfg ?_
          refine W.widen (k := 600000) (n := 7302250) (by decide) (by decide) ?_
          exact lw_ret hx hb hr hlocks dL_law_1195
        · have b554 : 6 ≤ x549.toInt := hw_inlt c552
          exfalso; omega
      · have b555 := hw_cmpneq (e545 ▸ c546)
        have b556 : x16.toInt ≠ (-3) := hw_Lne b555
        exfalso
        first | omega | contradiction | (subst_vars; omega)
    · refine W.lcmp hx hb dL_law_1116 ?_
      refine lv_topi (fun x557 e558 => ?_)
      refine lv_if_eq (tgt := 1188) hx hb dL_law_1117 (by decide) (fun c559 => ?_) (fun c559 => ?_)
      · have b560 := hw_cmpeq (e558 ▸ c559)
        have b561 : x16.toInt = (-11) := hw_Leq b560
        refine lv_iinc (v := 6) (lv' := [(3, .int 6), (2, .ref mo), (1, .ref x), (0, .ref b)]) hx hb dL_law_1188 hl (k := 0) rfl (by rfl) (by decide) rfl (fun ls hl => ?_)
        refine lv_goto (tgt := 18) hx hb dL_law_1191 (by decide) ?_
        refine lv_iload_n hx hb dL_law_18 rfl (lv_at hl 0 rfl) ?_
        refine lv_aload_n hx hb dL_law_19 rfl (lv_at hl 3 rfl) ?_
        refine va_slen hx hb hX hbl hbA hS dL_law_20 ?_
        refine lv_bipush (v := 6) hx hb dL_law_21 (by decide) ?_
        refine lv_isub hx hb dL_law_23 ?_
        refine lv_topi (fun x562 e563 => ?_)
        have t564 : x562.toInt = (Int32.ofNat L).toInt - 6 := by rw [e563]; exact hw_sub rfl rfl (by omega) (by omega)
        refine lv_icmp_gt (tgt := 1194) hx hb dL_law_24 (by decide) (fun c565 => ?_) (fun c565 => ?_)
        · have b566 : x562.toInt < 6 := hw_ilt c565
          refine lv_iconst (v := 1) hx hb dL_law_1194 (by decide) ?_
          have hfg := hw_hfg hG0 (by decide) hS.2.2
          refine va_forget hfg ?_
          refine W.widen (k := 600000) (n := 7302250) (by decide) (by decide) ?_
          exact lw_ret hx hb hr hlocks dL_law_1195
        · have b567 : 6 ≤ x562.toInt := hw_inlt c565
          exfalso; omega
      · have b568 := hw_cmpneq (e558 ▸ c559)
        have b569 : x16.toInt ≠ (-11) := hw_Lne b568
        exfalso
        first | omega | contradiction | (subst_vars; omega)
    · refine W.lcmp hx hb dL_law_1116 ?_
      refine lv_topi (fun x570 e571 => ?_)
      refine lv_if_eq (tgt := 1188) hx hb dL_law_1117 (by decide) (fun c572 => ?_) (fun c572 => ?_)
      · have b573 := hw_cmpeq (e571 ▸ c572)
        have b574 : x16.toInt = (-12) := hw_Leq b573
        refine lv_iinc (v := 6) (lv' := [(3, .int 6), (2, .ref mo), (1, .ref x), (0, .ref b)]) hx hb dL_law_1188 hl (k := 0) rfl (by rfl) (by decide) rfl (fun ls hl => ?_)
        refine lv_goto (tgt := 18) hx hb dL_law_1191 (by decide) ?_
        refine lv_iload_n hx hb dL_law_18 rfl (lv_at hl 0 rfl) ?_
        refine lv_aload_n hx hb dL_law_19 rfl (lv_at hl 3 rfl) ?_
        refine va_slen hx hb hX hbl hbA hS dL_law_20 ?_
        refine lv_bipush (v := 6) hx hb dL_law_21 (by decide) ?_
        refine lv_isub hx hb dL_law_23 ?_
        refine lv_topi (fun x575 e576 => ?_)
        have t577 : x575.toInt = (Int32.ofNat L).toInt - 6 := by rw [e576]; exact hw_sub rfl rfl (by omega) (by omega)
        refine lv_icmp_gt (tgt := 1194) hx hb dL_law_24 (by decide) (fun c578 => ?_) (fun c578 => ?_)
        · have b579 : x575.toInt < 6 := hw_ilt c578
          refine lv_iconst (v := 1) hx hb dL_law_1194 (by decide) ?_
          have hfg := hw_hfg hG0 (by decide) hS.2.2
          refine va_forget hfg ?_
          refine W.widen (k := 600000) (n := 7302250) (by decide) (by decide) ?_
          exact lw_ret hx hb hr hlocks dL_law_1195
        · have b580 : 6 ≤ x575.toInt := hw_inlt c578
          exfalso; omega
      · have b581 := hw_cmpneq (e571 ▸ c572)
        have b582 : x16.toInt ≠ (-12) := hw_Lne b581
        exfalso
        first | omega | contradiction | (subst_vars; omega)
    · refine W.lcmp hx hb dL_law_1116 ?_
      refine lv_topi (fun x583 e584 => ?_)
      refine lv_if_eq (tgt := 1188) hx hb dL_law_1117 (by decide) (fun c585 => ?_) (fun c585 => ?_)
      · have b586 := hw_cmpeq (e584 ▸ c585)
        have b587 : x16.toInt = (-16) := hw_Leq b586
        refine lv_iinc (v := 6) (lv' := [(3, .int 6), (2, .ref mo), (1, .ref x), (0, .ref b)]) hx hb dL_law_1188 hl (k := 0) rfl (by rfl) (by decide) rfl (fun ls hl => ?_)
        refine lv_goto (tgt := 18) hx hb dL_law_1191 (by decide) ?_
        refine lv_iload_n hx hb dL_law_18 rfl (lv_at hl 0 rfl) ?_
        refine lv_aload_n hx hb dL_law_19 rfl (lv_at hl 3 rfl) ?_
        refine va_slen hx hb hX hbl hbA hS dL_law_20 ?_
        refine lv_bipush (v := 6) hx hb dL_law_21 (by decide) ?_
        refine lv_isub hx hb dL_law_23 ?_
        refine lv_topi (fun x588 e589 => ?_)
        have t590 : x588.toInt = (Int32.ofNat L).toInt - 6 := by rw [e589]; exact hw_sub rfl rfl (by omega) (by omega)
        refine lv_icmp_gt (tgt := 1194) hx hb dL_law_24 (by decide) (fun c591 => ?_) (fun c591 => ?_)
        · have b592 : x588.toInt < 6 := hw_ilt c591
          refine lv_iconst (v := 1) hx hb dL_law_1194 (by decide) ?_
          have hfg := hw_hfg hG0 (by decide) hS.2.2
          refine va_forget hfg ?_
          refine W.widen (k := 600000) (n := 7302250) (by decide) (by decide) ?_
          exact lw_ret hx hb hr hlocks dL_law_1195
        · have b593 : 6 ≤ x588.toInt := hw_inlt c591
          exfalso; omega
      · have b594 := hw_cmpneq (e584 ▸ c585)
        have b595 : x16.toInt ≠ (-16) := hw_Lne b594
        exfalso
        first | omega | contradiction | (subst_vars; omega)
    · refine W.lcmp hx hb dL_law_1116 ?_
      refine lv_topi (fun x596 e597 => ?_)
      refine lv_if_eq (tgt := 1188) hx hb dL_law_1117 (by decide) (fun c598 => ?_) (fun c598 => ?_)
      · have b599 := hw_cmpeq (e597 ▸ c598)
        have b600 : x16.toInt = x526.toInt := hw_Leq b599
        refine lv_iinc (v := 6) (lv' := [(3, .int 6), (2, .ref mo), (1, .ref x), (0, .ref b)]) hx hb dL_law_1188 hl (k := 0) rfl (by rfl) (by decide) rfl (fun ls hl => ?_)
        refine lv_goto (tgt := 18) hx hb dL_law_1191 (by decide) ?_
        refine lv_iload_n hx hb dL_law_18 rfl (lv_at hl 0 rfl) ?_
        refine lv_aload_n hx hb dL_law_19 rfl (lv_at hl 3 rfl) ?_
        refine va_slen hx hb hX hbl hbA hS dL_law_20 ?_
        refine lv_bipush (v := 6) hx hb dL_law_21 (by decide) ?_
        refine lv_isub hx hb dL_law_23 ?_
        refine lv_topi (fun x601 e602 => ?_)
        have t603 : x601.toInt = (Int32.ofNat L).toInt - 6 := by rw [e602]; exact hw_sub rfl rfl (by omega) (by omega)
        refine lv_icmp_gt (tgt := 1194) hx hb dL_law_24 (by decide) (fun c604 => ?_) (fun c604 => ?_)
        · have b605 : x601.toInt < 6 := hw_ilt c604
          refine lv_iconst (v := 1) hx hb dL_law_1194 (by decide) ?_
          have hfg := hw_hfg hG0 (by decide) hS.2.2
          refine va_forget hfg ?_
          refine W.widen (k := 600000) (n := 7302250) (by decide) (by decide) ?_
          exact lw_ret hx hb hr hlocks dL_law_1195
        · have b606 : 6 ≤ x601.toInt := hw_inlt c604
          exfalso; omega
      · have b607 := hw_cmpneq (e597 ▸ c598)
        have b608 : x16.toInt ≠ x526.toInt := hw_Lne b607
        exfalso
        first | omega | contradiction | (subst_vars; omega)

