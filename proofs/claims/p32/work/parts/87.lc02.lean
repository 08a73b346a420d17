set_option maxHeartbeats 40000000 in
set_option maxRecDepth 100000 in
theorem hw_case885 {p : Program} {e : Env} {s : State} {m : MethodId} {below : List Frame} {meth : Method} {c : Code} (l : Launch) {b L : Nat} {xs : Nat → Int32} {D : hw_D} {G : Nat → Nat} {H : Heap} {locs : List Loc} {x mo k n : Nat} {y3 : Int32} {ls : Array Slot} (hL : L ≤ 384) (hy0 : 0 ≤ y3.toInt ∧ y3.toInt ≤ 384) (hy : y3.toInt + 6 ≤ L) (hkc : k + 20 ≤ 600000) (hnc : n + 80 ≤ 7302250) (hx : p.tables.exec = Jvm.exec) (hb : c.code = code) (hr : meth.sig.returnType = ret) (hml : c.maxLocals = 4) (hown : s.vm.findClass R_law = some m.cls) (hts0 : ∀ w ∈ lw_tbl, w.before #[Value.ref b] s = true) (hts : ∀ w ∈ wsL_law, w.before #[Value.ref b] s = true) (hX : va_X b L xs s s.heap) (hbl : b < s.heap.size) (hlocks : meth.locks = false) (hG0 : G = fun _ => 0) (hK : va_K D.1 vwCl (hw_ty D.2.1) s) (hST : hw_ST D.2.2 G s.heap.size s) (hI : hw_I D G s H x mo) (hS : va_S (hw_AW G [1, 2, 3, 4, 5, 6, 7, 8, 9, 10, 11, 12, 13, 14, 15, 16, 17, 18, 19, 20, 21, 22, 23, 24, 25, 26, 27, 28, 29, 30, 31, 32, 40, 42, 44, 45, 46, 48, 49, 50, 51, 53, 55, 58, 59, 67, 68, 69, 70, 71, 72, 73, 74, 75, 76, 77, 78, 79, 80, 81, 82, 83, 84, 101, 102, 103, 104, 105, 106, 107, 108, 109, 127, 128, 129, 132] s.heap.size) s.heap H locs) (hl : lv_has ls 4 [(3, .int y3), (2, .ref mo), (1, .ref x), (0, .ref b)]) (hk9 : ∀ (H1 : Heap) (locs1 : List Loc) (ls1 : Array Slot), hw_I D G s H1 x mo → va_S (hw_AW G [1, 2, 3, 4, 5, 6, 7, 8, 9, 10, 11, 12, 13, 14, 15, 16, 17, 18, 19, 20, 21, 22, 23, 24, 25, 26, 27, 28, 29, 30, 31, 32, 40, 42, 44, 45, 46, 48, 49, 50, 51, 53, 55, 58, 59, 67, 68, 69, 70, 71, 72, 73, 74, 75, 76, 77, 78, 79, 80, 81, 82, 83, 84, 101, 102, 103, 104, 105, 106, 107, 108, 109, 127, 128, 129, 132] s.heap.size) s.heap H1 locs1 → lv_has ls1 4 [(3, .int y3), (2, .ref mo), (1, .ref x), (0, .ref b)] → W p l e room_1 s m #[Value.ref b] below meth c H1 locs1 (k + 20) (n + 80) (lw_Z below #[Value.ref b] s) (F0 m 1186 ls1 [])) : W p l e room_1 s m #[Value.ref b] below meth c H locs k n (lw_Z below #[Value.ref b] s) (F0 m 885 ls []) := by
  have hH0 : hw_HT D G s.heap := fun a h => absurd (by rw [hG0]) h
  have hbA : ¬ (hw_AW G [1, 2, 3, 4, 5, 6, 7, 8, 9, 10, 11, 12, 13, 14, 15, 16, 17, 18, 19, 20, 21, 22, 23, 24, 25, 26, 27, 28, 29, 30, 31, 32, 40, 42, 44, 45, 46, 48, 49, 50, 51, 53, 55, 58, 59, 67, 68, 69, 70, 71, 72, 73, 74, 75, 76, 77, 78, 79, 80, 81, 82, 83, 84, 101, 102, 103, 104, 105, 106, 107, 108, 109, 127, 128, 129, 132] s.heap.size) b := hw_AWn (k := 0) (by rw [hG0]) (by decide) hbl
  have hLi : (Int32.ofNat L).toInt = (L : Int) := nI_toInt (by omega)
  refine hw_I_elim hI ?_
  intro G1 rx rm pnx pcx ksx scx udm kym lom wkm dkm lnm smm fim bem rkm rlm rwm clm dgm fq la sz9 fla fsz hH hGe1 wx wm gx gm Rx vx gsc vq hRK Rm vm gm0 gm1 gm2 gm3 gm4 gm5 gm6 gm7 gm8 gm9 gm10 gm11 vla vsz qsz hrel
  have hHs := hH0
  have qq := hRK.q
  refine lv_aload_n hx hb dL_law_885 rfl (lv_at hl 2 rfl) ?_
  refine lv_aload_n hx hb dL_law_886 rfl (lv_at hl 3 rfl) ?_
  refine lv_iload_n hx hb dL_law_887 rfl (lv_at hl 0 rfl) ?_
  refine lv_iconst (v := 1) hx hb dL_law_888 (by decide) ?_
  refine lv_iadd hx hb dL_law_889 ?_
  have t1 : (y3 + 1).toInt = y3.toInt + 1 := hw_add rfl rfl (by omega) (by omega)
  refine va_sld hx hb hX hbl hbA hS (hw_in (by omega) (by omega)) dL_law_890 ?_
  refine lv_aload_n hx hb dL_law_891 rfl (lv_at hl 3 rfl) ?_
  refine lv_iload_n hx hb dL_law_892 rfl (lv_at hl 0 rfl) ?_
  refine lv_iconst (v := 2) hx hb dL_law_893 (by decide) ?_
  refine lv_iadd hx hb dL_law_894 ?_
  have t2 : (y3 + 2).toInt = y3.toInt + 2 := hw_add rfl rfl (by omega) (by omega)
  refine va_sld hx hb hX hbl hbA hS (hw_in (by omega) (by omega)) dL_law_895 ?_
  refine lv_aload_n hx hb dL_law_896 rfl (lv_at hl 3 rfl) ?_
  refine lv_iload_n hx hb dL_law_897 rfl (lv_at hl 0 rfl) ?_
  refine lv_iconst (v := 3) hx hb dL_law_898 (by decide) ?_
  refine lv_iadd hx hb dL_law_899 ?_
  have t3 : (y3 + 3).toInt = y3.toInt + 3 := hw_add rfl rfl (by omega) (by omega)
  refine va_sld hx hb hX hbl hbA hS (hw_in (by omega) (by omega)) dL_law_900 ?_
  refine lv_aload_n hx hb dL_law_901 rfl (lv_at hl 3 rfl) ?_
  refine lv_iload_n hx hb dL_law_902 rfl (lv_at hl 0 rfl) ?_
  refine lv_iconst (v := 4) hx hb dL_law_903 (by decide) ?_
  refine lv_iadd hx hb dL_law_904 ?_
  have t4 : (y3 + 4).toInt = y3.toInt + 4 := hw_add rfl rfl (by omega) (by omega)
  refine va_sld hx hb hX hbl hbA hS (hw_in (by omega) (by omega)) dL_law_905 ?_
  refine lv_i2l hx hb dL_law_906 rfl ?_
  refine lv_topl (fun x5 e6 => ?_)
  refine lv_bipush (v := 32) hx hb dL_law_907 (by decide) ?_
  refine lv_lshl hx hb dL_law_909 rfl ?_
  refine lv_topl (fun x7 e8 => ?_)
  refine lv_aload_n hx hb dL_law_910 rfl (lv_at hl 3 rfl) ?_
  refine lv_iload_n hx hb dL_law_911 rfl (lv_at hl 0 rfl) ?_
  refine lv_iconst (v := 5) hx hb dL_law_912 (by decide) ?_
  refine lv_iadd hx hb dL_law_913 ?_
  have t9 : (y3 + 5).toInt = y3.toInt + 5 := hw_add rfl rfl (by omega) (by omega)
  refine va_sld hx hb hX hbl hbA hS (hw_in (by omega) (by omega)) dL_law_914 ?_
  refine lv_i2l hx hb dL_law_915 rfl ?_
  refine lv_topl (fun x10 e11 => ?_)
  refine lv_ldc2 (v := 4294967295) hx hb hown (hts (.constantLong RL 126 (4294967295)) (by decide +kernel)) dL_law_916 ?_
  refine lv_land hx hb dL_law_919 ?_
  refine lv_topl (fun x12 e13 => ?_)
  refine lv_lor hx hb dL_law_920 ?_
  refine lv_topl (fun x14 e15 => ?_)
  refine hw_cM0 (va_runV (As := [.int (xs (y3 + 1).toNatClampNeg), .int (xs (y3 + 2).toNatClampNeg), .int (xs (y3 + 3).toNatClampNeg), .long x14]) (rest := []) ⟨hx, hb, hml, hown, hts⟩ (k_X11_hang l D G1 x (xs (y3 + 1).toNatClampNeg) (xs (y3 + 2).toNatClampNeg) (xs (y3 + 3).toNatClampNeg) x14 _ la sz9 rx pnx pcx ksx scx fq gx Rx ⟨by first | decide | omega, by first | decide | omega⟩ qq) (cwV 4 hts gL_law_X11_hang rfl rfl rfl (by decide +kernel) ⟨Nat.le_of_ble_eq_true rfl, Nat.le_of_ble_eq_true rfl⟩) (hw_pV (hw_rc (q := (RX11, TX11, 14)) hK vx rfl) hH hK hST hS (by decide) (hw_hG hGe1) ⟨vx, vq, hRK⟩) rfl rfl hl.1 rfl (lv_room (Nat.le_of_ble_eq_true rfl)) dL_law_921 ⟨by show _ ≤ 600000; omega, by show _ ≤ 7302250; omega⟩) hS (hw_AWsub (by decide) hGe1 hS.1) (fun v H locs hp hz hk hS => ?_)
  rcases hp with ⟨rfl, hH, hRK, v16, v17, q18⟩ | ⟨rfl, hH, hRK, v19, v20, q21, q22⟩ | ⟨rfl, hH, hRK, v23, v24, q25, q26, q27⟩ | ⟨rfl, hH, hRK, v28, v29, q30, q31, q32, q33⟩ | ⟨rfl, hH, hRK, v34, v35, q36, q37, q38, q39, q40⟩ | ⟨rfl, hH, hRK, v41, v42, q43, q44, q45, q46, q47⟩
  · have vm := va_at.kept vm (hk _ (hw_lt vm) (hw_AWn gm (by decide) (hw_lt vm)))
    have vla := va_at.kept vla (hk _ (hw_lt vla) (hw_AWn (hw_RM_41 Rm) (by decide) (hw_lt vla)))
    have vsz := va_at.kept vsz (hk _ (hw_lt vsz) (hw_AWn (hw_RM_42 Rm) (by decide) (hw_lt vsz)))
    have hr48 : 0 ≤ (xs (y3 + 1).toNatClampNeg).toInt ∧ (xs (y3 + 1).toNatClampNeg).toInt ≤ 3 → ((la (xs (y3 + 1).toNatClampNeg).toNatClampNeg).toInt = -1 ↔ (fsz (xs (y3 + 1).toNatClampNeg).toNatClampNeg).toInt < 0) ∧ ((la (xs (y3 + 1).toNatClampNeg).toNatClampNeg).toInt ≠ -1 → (fla (xs (y3 + 1).toNatClampNeg).toNatClampNeg).toInt = (la (xs (y3 + 1).toNatClampNeg).toNatClampNeg).toInt ∧ (fsz (xs (y3 + 1).toNatClampNeg).toNatClampNeg).toInt = (sz9 (xs (y3 + 1).toNatClampNeg).toNatClampNeg).toInt) := fun h9 => hrel _ (hw_i4 h9)
    refine lv_pop hx hb dL_law_924 rfl ?_
    refine lv_aload_n hx hb dL_law_925 rfl (lv_at hl 1 rfl) ?_
    refine lv_aload_n hx hb dL_law_926 rfl (lv_at hl 3 rfl) ?_
    refine lv_iload_n hx hb dL_law_927 rfl (lv_at hl 0 rfl) ?_
    refine lv_iconst (v := 1) hx hb dL_law_928 (by decide) ?_
    refine lv_iadd hx hb dL_law_929 ?_
    refine va_sld hx hb hX hbl hbA hS (hw_in (by omega) (by omega)) dL_law_930 ?_
    refine lv_aload_n hx hb dL_law_931 rfl (lv_at hl 3 rfl) ?_
    refine lv_iload_n hx hb dL_law_932 rfl (lv_at hl 0 rfl) ?_
    refine lv_iconst (v := 2) hx hb dL_law_933 (by decide) ?_
    refine lv_iadd hx hb dL_law_934 ?_
    refine va_sld hx hb hX hbl hbA hS (hw_in (by omega) (by omega)) dL_law_935 ?_
    refine lv_aload_n hx hb dL_law_936 rfl (lv_at hl 3 rfl) ?_
    refine lv_iload_n hx hb dL_law_937 rfl (lv_at hl 0 rfl) ?_
    refine lv_iconst (v := 3) hx hb dL_law_938 (by decide) ?_
    refine lv_iadd hx hb dL_law_939 ?_
    refine va_sld hx hb hX hbl hbA hS (hw_in (by omega) (by omega)) dL_law_940 ?_
    refine lv_aload_n hx hb dL_law_941 rfl (lv_at hl 3 rfl) ?_
    refine lv_iload_n hx hb dL_law_942 rfl (lv_at hl 0 rfl) ?_
    refine lv_iconst (v := 4) hx hb dL_law_943 (by decide) ?_
    refine lv_iadd hx hb dL_law_944 ?_
    refine va_sld hx hb hX hbl hbA hS (hw_in (by omega) (by omega)) dL_law_945 ?_
    refine lv_i2l hx hb dL_law_946 rfl ?_
    refine lv_topl (fun x49 e50 => ?_)
    have e51 : x5 = x49 := by rw [e6, e50]
    subst e51
    refine lv_bipush (v := 32) hx hb dL_law_947 (by decide) ?_
    refine lv_lshl hx hb dL_law_949 rfl ?_
    refine lv_topl (fun x52 e53 => ?_)
    have e54 : x7 = x52 := by rw [e8, e53]
    subst e54
    refine lv_aload_n hx hb dL_law_950 rfl (lv_at hl 3 rfl) ?_
    refine lv_iload_n hx hb dL_law_951 rfl (lv_at hl 0 rfl) ?_
    refine lv_iconst (v := 5) hx hb dL_law_952 (by decide) ?_
    refine lv_iadd hx hb dL_law_953 ?_
    refine va_sld hx hb hX hbl hbA hS (hw_in (by omega) (by omega)) dL_law_954 ?_
    refine lv_i2l hx hb dL_law_955 rfl ?_
    refine lv_topl (fun x55 e56 => ?_)
    have e57 : x10 = x55 := by rw [e11, e56]
    subst e57
    refine lv_ldc2 (v := 4294967295) hx hb hown (hts (.constantLong RL 126 (4294967295)) (by decide +kernel)) dL_law_956 ?_
    refine lv_land hx hb dL_law_959 ?_
    refine lv_topl (fun x58 e59 => ?_)
    have e60 : x12 = x58 := by rw [e13, e59]
    subst e60
    refine lv_lor hx hb dL_law_960 ?_
    refine lv_topl (fun x61 e62 => ?_)
    have e63 : x14 = x61 := by rw [e15, e62]
    subst e63
    refine hw_cM0 (va_runV (As := [.int (xs (y3 + 1).toNatClampNeg), .int (xs (y3 + 2).toNatClampNeg), .int (xs (y3 + 3).toNatClampNeg), .long x14]) (rest := []) ⟨hx, hb, hml, hown, hts⟩ (k_X12_hang l D G1 mo (xs (y3 + 1).toNatClampNeg) (xs (y3 + 2).toNatClampNeg) (xs (y3 + 3).toNatClampNeg) x14 _ rm udm kym lom wkm dkm lnm smm fim bem rkm rlm rwm clm dgm fla fsz gm Rm ⟨by first | decide | omega, by first | decide | omega⟩ ⟨by first | decide | omega, by first | decide | omega⟩ ⟨by first | decide | omega, by first | decide | omega⟩ ⟨by first | decide | omega, by first | decide | omega⟩ ⟨by first | decide | omega, by first | decide | omega⟩ ⟨by first | decide | omega, by first | decide | omega⟩ ⟨by first | decide | omega, by first | decide | omega⟩ ⟨by first | decide | omega, by first | decide | omega⟩ ⟨by first | decide | omega, by first | decide | omega⟩ ⟨by first | decide | omega, by first | decide | omega⟩ ⟨by first | decide | omega, by first | decide | omega⟩ ⟨by first | decide | omega, by first | decide | omega⟩ qsz) (cwV 4 hts gL_law_X12_hang rfl rfl rfl (by decide +kernel) ⟨Nat.le_of_ble_eq_true rfl, Nat.le_of_ble_eq_true rfl⟩) (hw_pV (hw_rc (q := (RX12, TX12, 45)) hK vm rfl) hH hK hST hS (by decide) (hw_hG hGe1) ⟨vm, vla, vsz⟩) rfl rfl hl.1 rfl (lv_room (Nat.le_of_ble_eq_true rfl)) dL_law_961 ⟨by show _ ≤ 600000; omega, by show _ ≤ 7302250; omega⟩) hS (hw_AWsub (by decide) hGe1 hS.1) (fun v H locs hp hz hk hS => ?_)
    rcases hp with ⟨rfl, hH, v64, v65, v66, q67⟩ | ⟨rfl, hH, v68, v69, v70, q71, q72⟩ | ⟨rfl, hH, v73, v74, v75, q76, q77, q78⟩ | ⟨rfl, hH, v79, v80, v81, q82, q83, q84, q85⟩ | ⟨rfl, hH, v86, v87, v88, q89, q90, q91, q92, q93⟩ | ⟨rfl, hH, v94, v95, v96, q97, q98, q99, q100, q101⟩
    · have hRK := hw_Racks.kept hRK (fun q9 h9 l9 => hk q9 l9 (hw_AWn h9 (by decide) l9))
      have v16 := va_at.kept v16 (hk _ (hw_lt v16) (hw_AWn gx (by decide) (hw_lt v16)))
      have v17 := va_at.kept v17 (hk _ (hw_lt v17) (hw_AWn (hw_RX_13 Rx) (by decide) (hw_lt v17)))
      refine lv_pop hx hb dL_law_964 rfl ?_
      refine lv_goto (tgt := 1186) hx hb dL_law_965 (by decide) ?_
      refine W.widen (k := k + 20) (n := n + 80) (by first | omega | (show _ ≤ _; omega)) (by first | omega | (show _ ≤ _; omega)) ?_
      exact hk9 _ _ _ ⟨G1, rx, rm, pnx, pcx, ksx, scx, udm, kym, lom, wkm, dkm, lnm, smm, fim, bem, rkm, rlm, rwm, clm, dgm, fq, la, sz9, fla, fsz, hH, hGe1, wx, wm, gx, gm, Rx, v16, ⟨by first | decide | omega, by first | decide | omega⟩, v17, hRK, Rm, v64, ⟨by first | decide | omega, by first | decide | omega⟩, ⟨by first | decide | omega, by first | decide | omega⟩, ⟨by first | decide | omega, by first | decide | omega⟩, ⟨by first | decide | omega, by first | decide | omega⟩, ⟨by first | decide | omega, by first | decide | omega⟩, ⟨by first | decide | omega, by first | decide | omega⟩, ⟨by first | decide | omega, by first | decide | omega⟩, ⟨by first | decide | omega, by first | decide | omega⟩, ⟨by first | decide | omega, by first | decide | omega⟩, ⟨by first | decide | omega, by first | decide | omega⟩, ⟨by first | decide | omega, by first | decide | omega⟩, ⟨by first | decide | omega, by first | decide | omega⟩, v65, v66, qsz, hrel⟩ hS hl
    · have hRK := hw_Racks.kept hRK (fun q9 h9 l9 => hk q9 l9 (hw_AWn h9 (by decide) l9))
      have v16 := va_at.kept v16 (hk _ (hw_lt v16) (hw_AWn gx (by decide) (hw_lt v16)))
      have v17 := va_at.kept v17 (hk _ (hw_lt v17) (hw_AWn (hw_RX_13 Rx) (by decide) (hw_lt v17)))
      refine lv_pop hx hb dL_law_964 rfl ?_
      refine lv_goto (tgt := 1186) hx hb dL_law_965 (by decide) ?_
      refine W.widen (k := k + 20) (n := n + 80) (by first | omega | (show _ ≤ _; omega)) (by first | omega | (show _ ≤ _; omega)) ?_
      exact hk9 _ _ _ ⟨G1, rx, rm, pnx, pcx, ksx, scx, udm, kym, lom, wkm, dkm, lnm, smm, fim, bem, rkm, rlm, rwm, clm, dgm, fq, la, sz9, fla, fsz, hH, hGe1, wx, wm, gx, gm, Rx, v16, ⟨by first | decide | omega, by first | decide | omega⟩, v17, hRK, Rm, v68, ⟨by first | decide | omega, by first | decide | omega⟩, ⟨by first | decide | omega, by first | decide | omega⟩, ⟨by first | decide | omega, by first | decide | omega⟩, ⟨by first | decide | omega, by first | decide | omega⟩, ⟨by first | decide | omega, by first | decide | omega⟩, ⟨by first | decide | omega, by first | decide | omega⟩, ⟨by first | decide | omega, by first | decide | omega⟩, ⟨by first | decide | omega, by first | decide | omega⟩, ⟨by first | decide | omega, by first | decide | omega⟩, ⟨by first | decide | omega, by first | decide | omega⟩, ⟨by first | decide | omega, by first | decide | omega⟩, ⟨by first | decide | omega, by first | decide | omega⟩, v69, v70, qsz, hrel⟩ hS hl
    · have hRK := hw_Racks.kept hRK (fun q9 h9 l9 => hk q9 l9 (hw_AWn h9 (by decide) l9))
      have v16 := va_at.kept v16 (hk _ (hw_lt v16) (hw_AWn gx (by decide) (hw_lt v16)))
      have v17 := va_at.kept v17 (hk _ (hw_lt v17) (hw_AWn (hw_RX_13 Rx) (by decide) (hw_lt v17)))
      refine lv_pop hx hb dL_law_964 rfl ?_
      refine lv_goto (tgt := 1186) hx hb dL_law_965 (by decide) ?_
      refine W.widen (k := k + 20) (n := n + 80) (by first | omega | (show _ ≤ _; omega)) (by first | omega | (show _ ≤ _; omega)) ?_
      exact hk9 _ _ _ ⟨G1, rx, rm, pnx, pcx, ksx, scx, udm, kym, lom, wkm, dkm, lnm, smm, fim, bem, rkm, rlm, rwm, clm, dgm, fq, la, sz9, fla, fsz, hH, hGe1, wx, wm, gx, gm, Rx, v16, ⟨by first | decide | omega, by first | decide | omega⟩, v17, hRK, Rm, v73, ⟨by first | decide | omega, by first | decide | omega⟩, ⟨by first | decide | omega, by first | decide | omega⟩, ⟨by first | decide | omega, by first | decide | omega⟩, ⟨by first | decide | omega, by first | decide | omega⟩, ⟨by first | decide | omega, by first | decide | omega⟩, ⟨by first | decide | omega, by first | decide | omega⟩, ⟨by first | decide | omega, by first | decide | omega⟩, ⟨by first | decide | omega, by first | decide | omega⟩, ⟨by first | decide | omega, by first | decide | omega⟩, ⟨by first | decide | omega, by first | decide | omega⟩, ⟨by first | decide | omega, by first | decide | omega⟩, ⟨by first | decide | omega, by first | decide | omega⟩, v74, v75, qsz, hrel⟩ hS hl
    · have hRK := hw_Racks.kept hRK (fun q9 h9 l9 => hk q9 l9 (hw_AWn h9 (by decide) l9))
      have v16 := va_at.kept v16 (hk _ (hw_lt v16) (hw_AWn gx (by decide) (hw_lt v16)))
      have v17 := va_at.kept v17 (hk _ (hw_lt v17) (hw_AWn (hw_RX_13 Rx) (by decide) (hw_lt v17)))
      refine lv_pop hx hb dL_law_964 rfl ?_
      refine lv_goto (tgt := 1186) hx hb dL_law_965 (by decide) ?_
      refine W.widen (k := k + 20) (n := n + 80) (by first | omega | (show _ ≤ _; omega)) (by first | omega | (show _ ≤ _; omega)) ?_
      exact hk9 _ _ _ ⟨G1, rx, rm, pnx, pcx, ksx, scx, udm, kym, lom, wkm, dkm, lnm, smm, fim, bem, rkm, rlm, rwm, clm, dgm, fq, la, sz9, fla, fsz, hH, hGe1, wx, wm, gx, gm, Rx, v16, ⟨by first | decide | omega, by first | decide | omega⟩, v17, hRK, Rm, v79, ⟨by first | decide | omega, by first | decide | omega⟩, ⟨by first | decide | omega, by first | decide | omega⟩, ⟨by first | decide | omega, by first | decide | omega⟩, ⟨by first | decide | omega, by first | decide | omega⟩, ⟨by first | decide | omega, by first | decide | omega⟩, ⟨by first | decide | omega, by first | decide | omega⟩, ⟨by first | decide | omega, by first | decide | omega⟩, ⟨by first | decide | omega, by first | decide | omega⟩, ⟨by first | decide | omega, by first | decide | omega⟩, ⟨by first | decide | omega, by first | decide | omega⟩, ⟨by first | decide | omega, by first | decide | omega⟩, ⟨by first | decide | omega, by first | decide | omega⟩, v80, v81, qsz, hrel⟩ hS hl
    · have hRK := hw_Racks.kept hRK (fun q9 h9 l9 => hk q9 l9 (hw_AWn h9 (by decide) l9))
      have v16 := va_at.kept v16 (hk _ (hw_lt v16) (hw_AWn gx (by decide) (hw_lt v16)))
      have v17 := va_at.kept v17 (hk _ (hw_lt v17) (hw_AWn (hw_RX_13 Rx) (by decide) (hw_lt v17)))
      refine lv_pop hx hb dL_law_964 rfl ?_
      refine lv_goto (tgt := 1186) hx hb dL_law_965 (by decide) ?_
      refine W.widen (k := k + 20) (n := n + 80) (by first | omega | (show _ ≤ _; omega)) (by first | omega | (show _ ≤ _; omega)) ?_
      exact hk9 _ _ _ ⟨G1, rx, rm, pnx, pcx, ksx, scx, udm, kym, lom, wkm, dkm, lnm, smm, fim, bem, rkm, rlm, rwm, clm, dgm, fq, la, sz9, fla, fsz, hH, hGe1, wx, wm, gx, gm, Rx, v16, ⟨by first | decide | omega, by first | decide | omega⟩, v17, hRK, Rm, v86, ⟨by first | decide | omega, by first | decide | omega⟩, ⟨by first | decide | omega, by first | decide | omega⟩, ⟨by first | decide | omega, by first | decide | omega⟩, ⟨by first | decide | omega, by first | decide | omega⟩, ⟨by first | decide | omega, by first | decide | omega⟩, ⟨by first | decide | omega, by first | decide | omega⟩, ⟨by first | decide | omega, by first | decide | omega⟩, ⟨by first | decide | omega, by first | decide | omega⟩, ⟨by first | decide | omega, by first | decide | omega⟩, ⟨by first | decide | omega, by first | decide | omega⟩, ⟨by first | decide | omega, by first | decide | omega⟩, ⟨by first | decide | omega, by first | decide | omega⟩, v87, v88, qsz, hrel⟩ hS hl
    · have hRK := hw_Racks.kept hRK (fun q9 h9 l9 => hk q9 l9 (hw_AWn h9 (by decide) l9))
      have v16 := va_at.kept v16 (hk _ (hw_lt v16) (hw_AWn gx (by decide) (hw_lt v16)))
      have v17 := va_at.kept v17 (hk _ (hw_lt v17) (hw_AWn (hw_RX_13 Rx) (by decide) (hw_lt v17)))
      refine lv_pop hx hb dL_law_964 rfl ?_
      refine lv_goto (tgt := 1186) hx hb dL_law_965 (by decide) ?_
      refine W.widen (k := k + 20) (n := n + 80) (by first | omega | (show _ ≤ _; omega)) (by first | omega | (show _ ≤ _; omega)) ?_
      exact hk9 _ _ _ ⟨G1, rx, rm, pnx, pcx, ksx, scx, udm, kym, lom, wkm, dkm, lnm, smm, fim, bem, rkm, rlm, rwm, clm, dgm, fq, la, sz9, fla, fsz, hH, hGe1, wx, wm, gx, gm, Rx, v16, ⟨by first | decide | omega, by first | decide | omega⟩, v17, hRK, Rm, v94, ⟨by first | decide | omega, by first | decide | omega⟩, ⟨by first | decide | omega, by first | decide | omega⟩, ⟨by first | decide | omega, by first | decide | omega⟩, ⟨by first | decide | omega, by first | decide | omega⟩, ⟨by first | decide | omega, by first | decide | omega⟩, ⟨by first | decide | omega, by first | decide | omega⟩, ⟨by first | decide | omega, by first | decide | omega⟩, ⟨by first | decide | omega, by first | decide | omega⟩, ⟨by first | decide | omega, by first | decide | omega⟩, ⟨by first | decide | omega, by first | decide | omega⟩, ⟨by first | decide | omega, by first | decide | omega⟩, ⟨by first | decide | omega, by first | decide | omega⟩, v95, v96, qsz, hrel⟩ hS hl
  · have vm := va_at.kept vm (hk _ (hw_lt vm) (hw_AWn gm (by decide) (hw_lt vm)))
    have vla := va_at.kept vla (hk _ (hw_lt vla) (hw_AWn (hw_RM_41 Rm) (by decide) (hw_lt vla)))
    have vsz := va_at.kept vsz (hk _ (hw_lt vsz) (hw_AWn (hw_RM_42 Rm) (by decide) (hw_lt vsz)))
    have hr102 : 0 ≤ (xs (y3 + 1).toNatClampNeg).toInt ∧ (xs (y3 + 1).toNatClampNeg).toInt ≤ 3 → ((la (xs (y3 + 1).toNatClampNeg).toNatClampNeg).toInt = -1 ↔ (fsz (xs (y3 + 1).toNatClampNeg).toNatClampNeg).toInt < 0) ∧ ((la (xs (y3 + 1).toNatClampNeg).toNatClampNeg).toInt ≠ -1 → (fla (xs (y3 + 1).toNatClampNeg).toNatClampNeg).toInt = (la (xs (y3 + 1).toNatClampNeg).toNatClampNeg).toInt ∧ (fsz (xs (y3 + 1).toNatClampNeg).toNatClampNeg).toInt = (sz9 (xs (y3 + 1).toNatClampNeg).toNatClampNeg).toInt) := fun h9 => hrel _ (hw_i4 h9)
    refine lv_pop hx hb dL_law_924 rfl ?_
    refine lv_aload_n hx hb dL_law_925 rfl (lv_at hl 1 rfl) ?_
    refine lv_aload_n hx hb dL_law_926 rfl (lv_at hl 3 rfl) ?_
    refine lv_iload_n hx hb dL_law_927 rfl (lv_at hl 0 rfl) ?_
    refine lv_iconst (v := 1) hx hb dL_law_928 (by decide) ?_
    refine lv_iadd hx hb dL_law_929 ?_
    refine va_sld hx hb hX hbl hbA hS (hw_in (by omega) (by omega)) dL_law_930 ?_
    refine lv_aload_n hx hb dL_law_931 rfl (lv_at hl 3 rfl) ?_
    refine lv_iload_n hx hb dL_law_932 rfl (lv_at hl 0 rfl) ?_
    refine lv_iconst (v := 2) hx hb dL_law_933 (by decide) ?_
    refine lv_iadd hx hb dL_law_934 ?_
    refine va_sld hx hb hX hbl hbA hS (hw_in (by omega) (by omega)) dL_law_935 ?_
    refine lv_aload_n hx hb dL_law_936 rfl (lv_at hl 3 rfl) ?_
    refine lv_iload_n hx hb dL_law_937 rfl (lv_at hl 0 rfl) ?_
    refine lv_iconst (v := 3) hx hb dL_law_938 (by decide) ?_
    refine lv_iadd hx hb dL_law_939 ?_
    refine va_sld hx hb hX hbl hbA hS (hw_in (by omega) (by omega)) dL_law_940 ?_
    refine lv_aload_n hx hb dL_law_941 rfl (lv_at hl 3 rfl) ?_
    refine lv_iload_n hx hb dL_law_942 rfl (lv_at hl 0 rfl) ?_
    refine lv_iconst (v := 4) hx hb dL_law_943 (by decide) ?_
    refine lv_iadd hx hb dL_law_944 ?_
    refine va_sld hx hb hX hbl hbA hS (hw_in (by omega) (by omega)) dL_law_945 ?_
    refine lv_i2l hx hb dL_law_946 rfl ?_
    refine lv_topl (fun x103 e104 => ?_)
    have e105 : x5 = x103 := by rw [e6, e104]
    subst e105
    refine lv_bipush (v := 32) hx hb dL_law_947 (by decide) ?_
    refine lv_lshl hx hb dL_law_949 rfl ?_
    refine lv_topl (fun x106 e107 => ?_)
    have e108 : x7 = x106 := by rw [e8, e107]
    subst e108
    refine lv_aload_n hx hb dL_law_950 rfl (lv_at hl 3 rfl) ?_
    refine lv_iload_n hx hb dL_law_951 rfl (lv_at hl 0 rfl) ?_
    refine lv_iconst (v := 5) hx hb dL_law_952 (by decide) ?_
    refine lv_iadd hx hb dL_law_953 ?_
    refine va_sld hx hb hX hbl hbA hS (hw_in (by omega) (by omega)) dL_law_954 ?_
    refine lv_i2l hx hb dL_law_955 rfl ?_
    refine lv_topl (fun x109 e110 => ?_)
    have e111 : x10 = x109 := by rw [e11, e110]
    subst e111
    refine lv_ldc2 (v := 4294967295) hx hb hown (hts (.constantLong RL 126 (4294967295)) (by decide +kernel)) dL_law_956 ?_
    refine lv_land hx hb dL_law_959 ?_
    refine lv_topl (fun x112 e113 => ?_)
    have e114 : x12 = x112 := by rw [e13, e113]
    subst e114
    refine lv_lor hx hb dL_law_960 ?_
    refine lv_topl (fun x115 e116 => ?_)
    have e117 : x14 = x115 := by rw [e15, e116]
    subst e117
    refine hw_cM0 (va_runV (As := [.int (xs (y3 + 1).toNatClampNeg), .int (xs (y3 + 2).toNatClampNeg), .int (xs (y3 + 3).toNatClampNeg), .long x14]) (rest := []) ⟨hx, hb, hml, hown, hts⟩ (k_X12_hang l D G1 mo (xs (y3 + 1).toNatClampNeg) (xs (y3 + 2).toNatClampNeg) (xs (y3 + 3).toNatClampNeg) x14 _ rm udm kym lom wkm dkm lnm smm fim bem rkm rlm rwm clm dgm fla fsz gm Rm ⟨by first | decide | omega, by first | decide | omega⟩ ⟨by first | decide | omega, by first | decide | omega⟩ ⟨by first | decide | omega, by first | decide | omega⟩ ⟨by first | decide | omega, by first | decide | omega⟩ ⟨by first | decide | omega, by first | decide | omega⟩ ⟨by first | decide | omega, by first | decide | omega⟩ ⟨by first | decide | omega, by first | decide | omega⟩ ⟨by first | decide | omega, by first | decide | omega⟩ ⟨by first | decide | omega, by first | decide | omega⟩ ⟨by first | decide | omega, by first | decide | omega⟩ ⟨by first | decide | omega, by first | decide | omega⟩ ⟨by first | decide | omega, by first | decide | omega⟩ qsz) (cwV 4 hts gL_law_X12_hang rfl rfl rfl (by decide +kernel) ⟨Nat.le_of_ble_eq_true rfl, Nat.le_of_ble_eq_true rfl⟩) (hw_pV (hw_rc (q := (RX12, TX12, 45)) hK vm rfl) hH hK hST hS (by decide) (hw_hG hGe1) ⟨vm, vla, vsz⟩) rfl rfl hl.1 rfl (lv_room (Nat.le_of_ble_eq_true rfl)) dL_law_961 ⟨by show _ ≤ 600000; omega, by show _ ≤ 7302250; omega⟩) hS (hw_AWsub (by decide) hGe1 hS.1) (fun v H locs hp hz hk hS => ?_)
    rcases hp with ⟨rfl, hH, v118, v119, v120, q121⟩ | ⟨rfl, hH, v122, v123, v124, q125, q126⟩ | ⟨rfl, hH, v127, v128, v129, q130, q131, q132⟩ | ⟨rfl, hH, v133, v134, v135, q136, q137, q138, q139⟩ | ⟨rfl, hH, v140, v141, v142, q143, q144, q145, q146, q147⟩ | ⟨rfl, hH, v148, v149, v150, q151, q152, q153, q154, q155⟩
    · have hRK := hw_Racks.kept hRK (fun q9 h9 l9 => hk q9 l9 (hw_AWn h9 (by decide) l9))
      have v19 := va_at.kept v19 (hk _ (hw_lt v19) (hw_AWn gx (by decide) (hw_lt v19)))
      have v20 := va_at.kept v20 (hk _ (hw_lt v20) (hw_AWn (hw_RX_13 Rx) (by decide) (hw_lt v20)))
      refine lv_pop hx hb dL_law_964 rfl ?_
      refine lv_goto (tgt := 1186) hx hb dL_law_965 (by decide) ?_
      refine W.widen (k := k + 20) (n := n + 80) (by first | omega | (show _ ≤ _; omega)) (by first | omega | (show _ ≤ _; omega)) ?_
      exact hk9 _ _ _ ⟨G1, rx, rm, pnx, pcx, ksx, scx, udm, kym, lom, wkm, dkm, lnm, smm, fim, bem, rkm, rlm, rwm, clm, dgm, fq, la, sz9, fla, fsz, hH, hGe1, wx, wm, gx, gm, Rx, v19, ⟨by first | decide | omega, by first | decide | omega⟩, v20, hRK, Rm, v118, ⟨by first | decide | omega, by first | decide | omega⟩, ⟨by first | decide | omega, by first | decide | omega⟩, ⟨by first | decide | omega, by first | decide | omega⟩, ⟨by first | decide | omega, by first | decide | omega⟩, ⟨by first | decide | omega, by first | decide | omega⟩, ⟨by first | decide | omega, by first | decide | omega⟩, ⟨by first | decide | omega, by first | decide | omega⟩, ⟨by first | decide | omega, by first | decide | omega⟩, ⟨by first | decide | omega, by first | decide | omega⟩, ⟨by first | decide | omega, by first | decide | omega⟩, ⟨by first | decide | omega, by first | decide | omega⟩, ⟨by first | decide | omega, by first | decide | omega⟩, v119, v120, qsz, hrel⟩ hS hl
    · have hRK := hw_Racks.kept hRK (fun q9 h9 l9 => hk q9 l9 (hw_AWn h9 (by decide) l9))
      have v19 := va_at.kept v19 (hk _ (hw_lt v19) (hw_AWn gx (by decide) (hw_lt v19)))
      have v20 := va_at.kept v20 (hk _ (hw_lt v20) (hw_AWn (hw_RX_13 Rx) (by decide) (hw_lt v20)))
      refine lv_pop hx hb dL_law_964 rfl ?_
      refine lv_goto (tgt := 1186) hx hb dL_law_965 (by decide) ?_
      refine W.widen (k := k + 20) (n := n + 80) (by first | omega | (show _ ≤ _; omega)) (by first | omega | (show _ ≤ _; omega)) ?_
      exact hk9 _ _ _ ⟨G1, rx, rm, pnx, pcx, ksx, scx, udm, kym, lom, wkm, dkm, lnm, smm, fim, bem, rkm, rlm, rwm, clm, dgm, fq, la, sz9, fla, fsz, hH, hGe1, wx, wm, gx, gm, Rx, v19, ⟨by first | decide | omega, by first | decide | omega⟩, v20, hRK, Rm, v122, ⟨by first | decide | omega, by first | decide | omega⟩, ⟨by first | decide | omega, by first | decide | omega⟩, ⟨by first | decide | omega, by first | decide | omega⟩, ⟨by first | decide | omega, by first | decide | omega⟩, ⟨by first | decide | omega, by first | decide | omega⟩, ⟨by first | decide | omega, by first | decide | omega⟩, ⟨by first | decide | omega, by first | decide | omega⟩, ⟨by first | decide | omega, by first | decide | omega⟩, ⟨by first | decide | omega, by first | decide | omega⟩, ⟨by first | decide | omega, by first | decide | omega⟩, ⟨by first | decide | omega, by first | decide | omega⟩, ⟨by first | decide | omega, by first | decide | omega⟩, v123, v124, qsz, hrel⟩ hS hl
    · have hRK := hw_Racks.kept hRK (fun q9 h9 l9 => hk q9 l9 (hw_AWn h9 (by decide) l9))
      have v19 := va_at.kept v19 (hk _ (hw_lt v19) (hw_AWn gx (by decide) (hw_lt v19)))
      have v20 := va_at.kept v20 (hk _ (hw_lt v20) (hw_AWn (hw_RX_13 Rx) (by decide) (hw_lt v20)))
      refine lv_pop hx hb dL_law_964 rfl ?_
      refine lv_goto (tgt := 1186) hx hb dL_law_965 (by decide) ?_
      refine W.widen (k := k + 20) (n := n + 80) (by first | omega | (show _ ≤ _; omega)) (by first | omega | (show _ ≤ _; omega)) ?_
      exact hk9 _ _ _ ⟨G1, rx, rm, pnx, pcx, ksx, scx, udm, kym, lom, wkm, dkm, lnm, smm, fim, bem, rkm, rlm, rwm, clm, dgm, fq, la, sz9, fla, fsz, hH, hGe1, wx, wm, gx, gm, Rx, v19, ⟨by first | decide | omega, by first | decide | omega⟩, v20, hRK, Rm, v127, ⟨by first | decide | omega, by first | decide | omega⟩, ⟨by first | decide | omega, by first | decide | omega⟩, ⟨by first | decide | omega, by first | decide | omega⟩, ⟨by first | decide | omega, by first | decide | omega⟩, ⟨by first | decide | omega, by first | decide | omega⟩, ⟨by first | decide | omega, by first | decide | omega⟩, ⟨by first | decide | omega, by first | decide | omega⟩, ⟨by first | decide | omega, by first | decide | omega⟩, ⟨by first | decide | omega, by first | decide | omega⟩, ⟨by first | decide | omega, by first | decide | omega⟩, ⟨by first | decide | omega, by first | decide | omega⟩, ⟨by first | decide | omega, by first | decide | omega⟩, v128, v129, qsz, hrel⟩ hS hl
    · have hRK := hw_Racks.kept hRK (fun q9 h9 l9 => hk q9 l9 (hw_AWn h9 (by decide) l9))
      have v19 := va_at.kept v19 (hk _ (hw_lt v19) (hw_AWn gx (by decide) (hw_lt v19)))
      have v20 := va_at.kept v20 (hk _ (hw_lt v20) (hw_AWn (hw_RX_13 Rx) (by decide) (hw_lt v20)))
      refine lv_pop hx hb dL_law_964 rfl ?_
      refine lv_goto (tgt := 1186) hx hb dL_law_965 (by decide) ?_
      refine W.widen (k := k + 20) (n := n + 80) (by first | omega | (show _ ≤ _; omega)) (by first | omega | (show _ ≤ _; omega)) ?_
      exact hk9 _ _ _ ⟨G1, rx, rm, pnx, pcx, ksx, scx, udm, kym, lom, wkm, dkm, lnm, smm, fim, bem, rkm, rlm, rwm, clm, dgm, fq, la, sz9, fla, fsz, hH, hGe1, wx, wm, gx, gm, Rx, v19, ⟨by first | decide | omega, by first | decide | omega⟩, v20, hRK, Rm, v133, ⟨by first | decide | omega, by first | decide | omega⟩, ⟨by first | decide | omega, by first | decide | omega⟩, ⟨by first | decide | omega, by first | decide | omega⟩, ⟨by first | decide | omega, by first | decide | omega⟩, ⟨by first | decide | omega, by first | decide | omega⟩, ⟨by first | decide | omega, by first | decide | omega⟩, ⟨by first | decide | omega, by first | decide | omega⟩, ⟨by first | decide | omega, by first | decide | omega⟩, ⟨by first | decide | omega, by first | decide | omega⟩, ⟨by first | decide | omega, by first | decide | omega⟩, ⟨by first | decide | omega, by first | decide | omega⟩, ⟨by first | decide | omega, by first | decide | omega⟩, v134, v135, qsz, hrel⟩ hS hl
    · have hRK := hw_Racks.kept hRK (fun q9 h9 l9 => hk q9 l9 (hw_AWn h9 (by decide) l9))
      have v19 := va_at.kept v19 (hk _ (hw_lt v19) (hw_AWn gx (by decide) (hw_lt v19)))
      have v20 := va_at.kept v20 (hk _ (hw_lt v20) (hw_AWn (hw_RX_13 Rx) (by decide) (hw_lt v20)))
      refine lv_pop hx hb dL_law_964 rfl ?_
      refine lv_goto (tgt := 1186) hx hb dL_law_965 (by decide) ?_
      refine W.widen (k := k + 20) (n := n + 80) (by first | omega | (show _ ≤ _; omega)) (by first | omega | (show _ ≤ _; omega)) ?_
      exact hk9 _ _ _ ⟨G1, rx, rm, pnx, pcx, ksx, scx, udm, kym, lom, wkm, dkm, lnm, smm, fim, bem, rkm, rlm, rwm, clm, dgm, fq, la, sz9, fla, fsz, hH, hGe1, wx, wm, gx, gm, Rx, v19, ⟨by first | decide | omega, by first | decide | omega⟩, v20, hRK, Rm, v140, ⟨by first | decide | omega, by first | decide | omega⟩, ⟨by first | decide | omega, by first | decide | omega⟩, ⟨by first | decide | omega, by first | decide | omega⟩, ⟨by first | decide | omega, by first | decide | omega⟩, ⟨by first | decide | omega, by first | decide | omega⟩, ⟨by first | decide | omega, by first | decide | omega⟩, ⟨by first | decide | omega, by first | decide | omega⟩, ⟨by first | decide | omega, by first | decide | omega⟩, ⟨by first | decide | omega, by first | decide | omega⟩, ⟨by first | decide | omega, by first | decide | omega⟩, ⟨by first | decide | omega, by first | decide | omega⟩, ⟨by first | decide | omega, by first | decide | omega⟩, v141, v142, qsz, hrel⟩ hS hl
    · have hRK := hw_Racks.kept hRK (fun q9 h9 l9 => hk q9 l9 (hw_AWn h9 (by decide) l9))
      have v19 := va_at.kept v19 (hk _ (hw_lt v19) (hw_AWn gx (by decide) (hw_lt v19)))
      have v20 := va_at.kept v20 (hk _ (hw_lt v20) (hw_AWn (hw_RX_13 Rx) (by decide) (hw_lt v20)))
      refine lv_pop hx hb dL_law_964 rfl ?_
      refine lv_goto (tgt := 1186) hx hb dL_law_965 (by decide) ?_
      refine W.widen (k := k + 20) (n := n + 80) (by first | omega | (show _ ≤ _; omega)) (by first | omega | (show _ ≤ _; omega)) ?_
      exact hk9 _ _ _ ⟨G1, rx, rm, pnx, pcx, ksx, scx, udm, kym, lom, wkm, dkm, lnm, smm, fim, bem, rkm, rlm, rwm, clm, dgm, fq, la, sz9, fla, fsz, hH, hGe1, wx, wm, gx, gm, Rx, v19, ⟨by first | decide | omega, by first | decide | omega⟩, v20, hRK, Rm, v148, ⟨by first | decide | omega, by first | decide | omega⟩, ⟨by first | decide | omega, by first | decide | omega⟩, ⟨by first | decide | omega, by first | decide | omega⟩, ⟨by first | decide | omega, by first | decide | omega⟩, ⟨by first | decide | omega, by first | decide | omega⟩, ⟨by first | decide | omega, by first | decide | omega⟩, ⟨by first | decide | omega, by first | decide | omega⟩, ⟨by first | decide | omega, by first | decide | omega⟩, ⟨by first | decide | omega, by first | decide | omega⟩, ⟨by first | decide | omega, by first | decide | omega⟩, ⟨by first | decide | omega, by first | decide | omega⟩, ⟨by first | decide | omega, by first | decide | omega⟩, v149, v150, qsz, hrel⟩ hS hl
  · have vm := va_at.kept vm (hk _ (hw_lt vm) (hw_AWn gm (by decide) (hw_lt vm)))
    have vla := va_at.kept vla (hk _ (hw_lt vla) (hw_AWn (hw_RM_41 Rm) (by decide) (hw_lt vla)))
    have vsz := va_at.kept vsz (hk _ (hw_lt vsz) (hw_AWn (hw_RM_42 Rm) (by decide) (hw_lt vsz)))
    have hr156 : 0 ≤ (xs (y3 + 1).toNatClampNeg).toInt ∧ (xs (y3 + 1).toNatClampNeg).toInt ≤ 3 → ((la (xs (y3 + 1).toNatClampNeg).toNatClampNeg).toInt = -1 ↔ (fsz (xs (y3 + 1).toNatClampNeg).toNatClampNeg).toInt < 0) ∧ ((la (xs (y3 + 1).toNatClampNeg).toNatClampNeg).toInt ≠ -1 → (fla (xs (y3 + 1).toNatClampNeg).toNatClampNeg).toInt = (la (xs (y3 + 1).toNatClampNeg).toNatClampNeg).toInt ∧ (fsz (xs (y3 + 1).toNatClampNeg).toNatClampNeg).toInt = (sz9 (xs (y3 + 1).toNatClampNeg).toNatClampNeg).toInt) := fun h9 => hrel _ (hw_i4 h9)
    refine lv_pop hx hb dL_law_924 rfl ?_
    refine lv_aload_n hx hb dL_law_925 rfl (lv_at hl 1 rfl) ?_
    refine lv_aload_n hx hb dL_law_926 rfl (lv_at hl 3 rfl) ?_
    refine lv_iload_n hx hb dL_law_927 rfl (lv_at hl 0 rfl) ?_
    refine lv_iconst (v := 1) hx hb dL_law_928 (by decide) ?_
    refine lv_iadd hx hb dL_law_929 ?_
    refine va_sld hx hb hX hbl hbA hS (hw_in (by omega) (by omega)) dL_law_930 ?_
    refine lv_aload_n hx hb dL_law_931 rfl (lv_at hl 3 rfl) ?_
    refine lv_iload_n hx hb dL_law_932 rfl (lv_at hl 0 rfl) ?_
    refine lv_iconst (v := 2) hx hb dL_law_933 (by decide) ?_
    refine lv_iadd hx hb dL_law_934 ?_
    refine va_sld hx hb hX hbl hbA hS (hw_in (by omega) (by omega)) dL_law_935 ?_
    refine lv_aload_n hx hb dL_law_936 rfl (lv_at hl 3 rfl) ?_
    refine lv_iload_n hx hb dL_law_937 rfl (lv_at hl 0 rfl) ?_
    refine lv_iconst (v := 3) hx hb dL_law_938 (by decide) ?_
    refine lv_iadd hx hb dL_law_939 ?_
    refine va_sld hx hb hX hbl hbA hS (hw_in (by omega) (by omega)) dL_law_940 ?_
    refine lv_aload_n hx hb dL_law_941 rfl (lv_at hl 3 rfl) ?_
    refine lv_iload_n hx hb dL_law_942 rfl (lv_at hl 0 rfl) ?_
    refine lv_iconst (v := 4) hx hb dL_law_943 (by decide) ?_
    refine lv_iadd hx hb dL_law_944 ?_
    refine va_sld hx hb hX hbl hbA hS (hw_in (by omega) (by omega)) dL_law_945 ?_
    refine lv_i2l hx hb dL_law_946 rfl ?_
    refine lv_topl (fun x157 e158 => ?_)
    have e159 : x5 = x157 := by rw [e6, e158]
    subst e159
    refine lv_bipush (v := 32) hx hb dL_law_947 (by decide) ?_
    refine lv_lshl hx hb dL_law_949 rfl ?_
    refine lv_topl (fun x160 e161 => ?_)
    have e162 : x7 = x160 := by rw [e8, e161]
    subst e162
    refine lv_aload_n hx hb dL_law_950 rfl (lv_at hl 3 rfl) ?_
    refine lv_iload_n hx hb dL_law_951 rfl (lv_at hl 0 rfl) ?_
    refine lv_iconst (v := 5) hx hb dL_law_952 (by decide) ?_
    refine lv_iadd hx hb dL_law_953 ?_
    refine va_sld hx hb hX hbl hbA hS (hw_in (by omega) (by omega)) dL_law_954 ?_
    refine lv_i2l hx hb dL_law_955 rfl ?_
    refine lv_topl (fun x163 e164 => ?_)
    have e165 : x10 = x163 := by rw [e11, e164]
    subst e165
    refine lv_ldc2 (v := 4294967295) hx hb hown (hts (.constantLong RL 126 (4294967295)) (by decide +kernel)) dL_law_956 ?_
    refine lv_land hx hb dL_law_959 ?_
    refine lv_topl (fun x166 e167 => ?_)
    have e168 : x12 = x166 := by rw [e13, e167]
    subst e168
    refine lv_lor hx hb dL_law_960 ?_
    refine lv_topl (fun x169 e170 => ?_)
    have e171 : x14 = x169 := by rw [e15, e170]
    subst e171
    refine hw_cM0 (va_runV (As := [.int (xs (y3 + 1).toNatClampNeg), .int (xs (y3 + 2).toNatClampNeg), .int (xs (y3 + 3).toNatClampNeg), .long x14]) (rest := []) ⟨hx, hb, hml, hown, hts⟩ (k_X12_hang l D G1 mo (xs (y3 + 1).toNatClampNeg) (xs (y3 + 2).toNatClampNeg) (xs (y3 + 3).toNatClampNeg) x14 _ rm udm kym lom wkm dkm lnm smm fim bem rkm rlm rwm clm dgm fla fsz gm Rm ⟨by first | decide | omega, by first | decide | omega⟩ ⟨by first | decide | omega, by first | decide | omega⟩ ⟨by first | decide | omega, by first | decide | omega⟩ ⟨by first | decide | omega, by first | decide | omega⟩ ⟨by first | decide | omega, by first | decide | omega⟩ ⟨by first | decide | omega, by first | decide | omega⟩ ⟨by first | decide | omega, by first | decide | omega⟩ ⟨by first | decide | omega, by first | decide | omega⟩ ⟨by first | decide | omega, by first | decide | omega⟩ ⟨by first | decide | omega, by first | decide | omega⟩ ⟨by first | decide | omega, by first | decide | omega⟩ ⟨by first | decide | omega, by first | decide | omega⟩ qsz) (cwV 4 hts gL_law_X12_hang rfl rfl rfl (by decide +kernel) ⟨Nat.le_of_ble_eq_true rfl, Nat.le_of_ble_eq_true rfl⟩) (hw_pV (hw_rc (q := (RX12, TX12, 45)) hK vm rfl) hH hK hST hS (by decide) (hw_hG hGe1) ⟨vm, vla, vsz⟩) rfl rfl hl.1 rfl (lv_room (Nat.le_of_ble_eq_true rfl)) dL_law_961 ⟨by show _ ≤ 600000; omega, by show _ ≤ 7302250; omega⟩) hS (hw_AWsub (by decide) hGe1 hS.1) (fun v H locs hp hz hk hS => ?_)
    rcases hp with ⟨rfl, hH, v172, v173, v174, q175⟩ | ⟨rfl, hH, v176, v177, v178, q179, q180⟩ | ⟨rfl, hH, v181, v182, v183, q184, q185, q186⟩ | ⟨rfl, hH, v187, v188, v189, q190, q191, q192, q193⟩ | ⟨rfl, hH, v194, v195, v196, q197, q198, q199, q200, q201⟩ | ⟨rfl, hH, v202, v203, v204, q205, q206, q207, q208, q209⟩
    · have hRK := hw_Racks.kept hRK (fun q9 h9 l9 => hk q9 l9 (hw_AWn h9 (by decide) l9))
      have v23 := va_at.kept v23 (hk _ (hw_lt v23) (hw_AWn gx (by decide) (hw_lt v23)))
      have v24 := va_at.kept v24 (hk _ (hw_lt v24) (hw_AWn (hw_RX_13 Rx) (by decide) (hw_lt v24)))
      refine lv_pop hx hb dL_law_964 rfl ?_
      refine lv_goto (tgt := 1186) hx hb dL_law_965 (by decide) ?_
      refine W.widen (k := k + 20) (n := n + 80) (by first | omega | (show _ ≤ _; omega)) (by first | omega | (show _ ≤ _; omega)) ?_
      exact hk9 _ _ _ ⟨G1, rx, rm, pnx, pcx, ksx, scx, udm, kym, lom, wkm, dkm, lnm, smm, fim, bem, rkm, rlm, rwm, clm, dgm, fq, la, sz9, fla, fsz, hH, hGe1, wx, wm, gx, gm, Rx, v23, ⟨by first | decide | omega, by first | decide | omega⟩, v24, hRK, Rm, v172, ⟨by first | decide | omega, by first | decide | omega⟩, ⟨by first | decide | omega, by first | decide | omega⟩, ⟨by first | decide | omega, by first | decide | omega⟩, ⟨by first | decide | omega, by first | decide | omega⟩, ⟨by first | decide | omega, by first | decide | omega⟩, ⟨by first | decide | omega, by first | decide | omega⟩, ⟨by first | decide | omega, by first | decide | omega⟩, ⟨by first | decide | omega, by first | decide | omega⟩, ⟨by first | decide | omega, by first | decide | omega⟩, ⟨by first | decide | omega, by first | decide | omega⟩, ⟨by first | decide | omega, by first | decide | omega⟩, ⟨by first | decide | omega, by first | decide | omega⟩, v173, v174, qsz, hrel⟩ hS hl
    · have hRK := hw_Racks.kept hRK (fun q9 h9 l9 => hk q9 l9 (hw_AWn h9 (by decide) l9))
      have v23 := va_at.kept v23 (hk _ (hw_lt v23) (hw_AWn gx (by decide) (hw_lt v23)))
      have v24 := va_at.kept v24 (hk _ (hw_lt v24) (hw_AWn (hw_RX_13 Rx) (by decide) (hw_lt v24)))
      refine lv_pop hx hb dL_law_964 rfl ?_
      refine lv_goto (tgt := 1186) hx hb dL_law_965 (by decide) ?_
      refine W.widen (k := k + 20) (n := n + 80) (by first | omega | (show _ ≤ _; omega)) (by first | omega | (show _ ≤ _; omega)) ?_
      exact hk9 _ _ _ ⟨G1, rx, rm, pnx, pcx, ksx, scx, udm, kym, lom, wkm, dkm, lnm, smm, fim, bem, rkm, rlm, rwm, clm, dgm, fq, la, sz9, fla, fsz, hH, hGe1, wx, wm, gx, gm, Rx, v23, ⟨by first | decide | omega, by first | decide | omega⟩, v24, hRK, Rm, v176, ⟨by first | decide | omega, by first | decide | omega⟩, ⟨by first | decide | omega, by first | decide | omega⟩, ⟨by first | decide | omega, by first | decide | omega⟩, ⟨by first | decide | omega, by first | decide | omega⟩, ⟨by first | decide | omega, by first | decide | omega⟩, ⟨by first | decide | omega, by first | decide | omega⟩, ⟨by first | decide | omega, by first | decide | omega⟩, ⟨by first | decide | omega, by first | decide | omega⟩, ⟨by first | decide | omega, by first | decide | omega⟩, ⟨by first | decide | omega, by first | decide | omega⟩, ⟨by first | decide | omega, by first | decide | omega⟩, ⟨by first | decide | omega, by first | decide | omega⟩, v177, v178, qsz, hrel⟩ hS hl
    · have hRK := hw_Racks.kept hRK (fun q9 h9 l9 => hk q9 l9 (hw_AWn h9 (by decide) l9))
      have v23 := va_at.kept v23 (hk _ (hw_lt v23) (hw_AWn gx (by decide) (hw_lt v23)))
      have v24 := va_at.kept v24 (hk _ (hw_lt v24) (hw_AWn (hw_RX_13 Rx) (by decide) (hw_lt v24)))
      refine lv_pop hx hb dL_law_964 rfl ?_
      refine lv_goto (tgt := 1186) hx hb dL_law_965 (by decide) ?_
      refine W.widen (k := k + 20) (n := n + 80) (by first | omega | (show _ ≤ _; omega)) (by first | omega | (show _ ≤ _; omega)) ?_
      exact hk9 _ _ _ ⟨G1, rx, rm, pnx, pcx, ksx, scx, udm, kym, lom, wkm, dkm, lnm, smm, fim, bem, rkm, rlm, rwm, clm, dgm, fq, la, sz9, fla, fsz, hH, hGe1, wx, wm, gx, gm, Rx, v23, ⟨by first | decide | omega, by first | decide | omega⟩, v24, hRK, Rm, v181, ⟨by first | decide | omega, by first | decide | omega⟩, ⟨by first | decide | omega, by first | decide | omega⟩, ⟨by first | decide | omega, by first | decide | omega⟩, ⟨by first | decide | omega, by first | decide | omega⟩, ⟨by first | decide | omega, by first | decide | omega⟩, ⟨by first | decide | omega, by first | decide | omega⟩, ⟨by first | decide | omega, by first | decide | omega⟩, ⟨by first | decide | omega, by first | decide | omega⟩, ⟨by first | decide | omega, by first | decide | omega⟩, ⟨by first | decide | omega, by first | decide | omega⟩, ⟨by first | decide | omega, by first | decide | omega⟩, ⟨by first | decide | omega, by first | decide | omega⟩, v182, v183, qsz, hrel⟩ hS hl
    · have hRK := hw_Racks.kept hRK (fun q9 h9 l9 => hk q9 l9 (hw_AWn h9 (by decide) l9))
      have v23 := va_at.kept v23 (hk _ (hw_lt v23) (hw_AWn gx (by decide) (hw_lt v23)))
      have v24 := va_at.kept v24 (hk _ (hw_lt v24) (hw_AWn (hw_RX_13 Rx) (by decide) (hw_lt v24)))
      refine lv_pop hx hb dL_law_964 rfl ?_
      refine lv_goto (tgt := 1186) hx hb dL_law_965 (by decide) ?_
      refine W.widen (k := k + 20) (n := n + 80) (by first | omega | (show _ ≤ _; omega)) (by first | omega | (show _ ≤ _; omega)) ?_
      exact hk9 _ _ _ ⟨G1, rx, rm, pnx, pcx, ksx, scx, udm, kym, lom, wkm, dkm, lnm, smm, fim, bem, rkm, rlm, rwm, clm, dgm, fq, la, sz9, fla, fsz, hH, hGe1, wx, wm, gx, gm, Rx, v23, ⟨by first | decide | omega, by first | decide | omega⟩, v24, hRK, Rm, v187, ⟨by first | decide | omega, by first | decide | omega⟩, ⟨by first | decide | omega, by first | decide | omega⟩, ⟨by first | decide | omega, by first | decide | omega⟩, ⟨by first | decide | omega, by first | decide | omega⟩, ⟨by first | decide | omega, by first | decide | omega⟩, ⟨by first | decide | omega, by first | decide | omega⟩, ⟨by first | decide | omega, by first | decide | omega⟩, ⟨by first | decide | omega, by first | decide | omega⟩, ⟨by first | decide | omega, by first | decide | omega⟩, ⟨by first | decide | omega, by first | decide | omega⟩, ⟨by first | decide | omega, by first | decide | omega⟩, ⟨by first | decide | omega, by first | decide | omega⟩, v188, v189, qsz, hrel⟩ hS hl
    · have hRK := hw_Racks.kept hRK (fun q9 h9 l9 => hk q9 l9 (hw_AWn h9 (by decide) l9))
      have v23 := va_at.kept v23 (hk _ (hw_lt v23) (hw_AWn gx (by decide) (hw_lt v23)))
      have v24 := va_at.kept v24 (hk _ (hw_lt v24) (hw_AWn (hw_RX_13 Rx) (by decide) (hw_lt v24)))
      refine lv_pop hx hb dL_law_964 rfl ?_
      refine lv_goto (tgt := 1186) hx hb dL_law_965 (by decide) ?_
      refine W.widen (k := k + 20) (n := n + 80) (by first | omega | (show _ ≤ _; omega)) (by first | omega | (show _ ≤ _; omega)) ?_
      exact hk9 _ _ _ ⟨G1, rx, rm, pnx, pcx, ksx, scx, udm, kym, lom, wkm, dkm, lnm, smm, fim, bem, rkm, rlm, rwm, clm, dgm, fq, la, sz9, fla, fsz, hH, hGe1, wx, wm, gx, gm, Rx, v23, ⟨by first | decide | omega, by first | decide | omega⟩, v24, hRK, Rm, v194, ⟨by first | decide | omega, by first | decide | omega⟩, ⟨by first | decide | omega, by first | decide | omega⟩, ⟨by first | decide | omega, by first | decide | omega⟩, ⟨by first | decide | omega, by first | decide | omega⟩, ⟨by first | decide | omega, by first | decide | omega⟩, ⟨by first | decide | omega, by first | decide | omega⟩, ⟨by first | decide | omega, by first | decide | omega⟩, ⟨by first | decide | omega, by first | decide | omega⟩, ⟨by first | decide | omega, by first | decide | omega⟩, ⟨by first | decide | omega, by first | decide | omega⟩, ⟨by first | decide | omega, by first | decide | omega⟩, ⟨by first | decide | omega, by first | decide | omega⟩, v195, v196, qsz, hrel⟩ hS hl
    · have hRK := hw_Racks.kept hRK (fun q9 h9 l9 => hk q9 l9 (hw_AWn h9 (by decide) l9))
      have v23 := va_at.kept v23 (hk _ (hw_lt v23) (hw_AWn gx (by decide) (hw_lt v23)))
      have v24 := va_at.kept v24 (hk _ (hw_lt v24) (hw_AWn (hw_RX_13 Rx) (by decide) (hw_lt v24)))
      refine lv_pop hx hb dL_law_964 rfl ?_
      refine lv_goto (tgt := 1186) hx hb dL_law_965 (by decide) ?_
      refine W.widen (k := k + 20) (n := n + 80) (by first | omega | (show _ ≤ _; omega)) (by first | omega | (show _ ≤ _; omega)) ?_
      exact hk9 _ _ _ ⟨G1, rx, rm, pnx, pcx, ksx, scx, udm, kym, lom, wkm, dkm, lnm, smm, fim, bem, rkm, rlm, rwm, clm, dgm, fq, la, sz9, fla, fsz, hH, hGe1, wx, wm, gx, gm, Rx, v23, ⟨by first | decide | omega, by first | decide | omega⟩, v24, hRK, Rm, v202, ⟨by first | decide | omega, by first | decide | omega⟩, ⟨by first | decide | omega, by first | decide | omega⟩, ⟨by first | decide | omega, by first | decide | omega⟩, ⟨by first | decide | omega, by first | decide | omega⟩, ⟨by first | decide | omega, by first | decide | omega⟩, ⟨by first | decide | omega, by first | decide | omega⟩, ⟨by first | decide | omega, by first | decide | omega⟩, ⟨by first | decide | omega, by first | decide | omega⟩, ⟨by first | decide | omega, by first | decide | omega⟩, ⟨by first | decide | omega, by first | decide | omega⟩, ⟨by first | decide | omega, by first | decide | omega⟩, ⟨by first | decide | omega, by first | decide | omega⟩, v203, v204, qsz, hrel⟩ hS hl
  · have vm := va_at.kept vm (hk _ (hw_lt vm) (hw_AWn gm (by decide) (hw_lt vm)))
    have vla := va_at.kept vla (hk _ (hw_lt vla) (hw_AWn (hw_RM_41 Rm) (by decide) (hw_lt vla)))
    have vsz := va_at.kept vsz (hk _ (hw_lt vsz) (hw_AWn (hw_RM_42 Rm) (by decide) (hw_lt vsz)))
    have hr210 : 0 ≤ (xs (y3 + 1).toNatClampNeg).toInt ∧ (xs (y3 + 1).toNatClampNeg).toInt ≤ 3 → ((la (xs (y3 + 1).toNatClampNeg).toNatClampNeg).toInt = -1 ↔ (fsz (xs (y3 + 1).toNatClampNeg).toNatClampNeg).toInt < 0) ∧ ((la (xs (y3 + 1).toNatClampNeg).toNatClampNeg).toInt ≠ -1 → (fla (xs (y3 + 1).toNatClampNeg).toNatClampNeg).toInt = (la (xs (y3 + 1).toNatClampNeg).toNatClampNeg).toInt ∧ (fsz (xs (y3 + 1).toNatClampNeg).toNatClampNeg).toInt = (sz9 (xs (y3 + 1).toNatClampNeg).toNatClampNeg).toInt) := fun h9 => hrel _ (hw_i4 h9)
    refine lv_pop hx hb dL_law_924 rfl ?_
    refine lv_aload_n hx hb dL_law_925 rfl (lv_at hl 1 rfl) ?_
    refine lv_aload_n hx hb dL_law_926 rfl (lv_at hl 3 rfl) ?_
    refine lv_iload_n hx hb dL_law_927 rfl (lv_at hl 0 rfl) ?_
    refine lv_iconst (v := 1) hx hb dL_law_928 (by decide) ?_
    refine lv_iadd hx hb dL_law_929 ?_
    refine va_sld hx hb hX hbl hbA hS (hw_in (by omega) (by omega)) dL_law_930 ?_
    refine lv_aload_n hx hb dL_law_931 rfl (lv_at hl 3 rfl) ?_
    refine lv_iload_n hx hb dL_law_932 rfl (lv_at hl 0 rfl) ?_
    refine lv_iconst (v := 2) hx hb dL_law_933 (by decide) ?_
    refine lv_iadd hx hb dL_law_934 ?_
    refine va_sld hx hb hX hbl hbA hS (hw_in (by omega) (by omega)) dL_law_935 ?_
    refine lv_aload_n hx hb dL_law_936 rfl (lv_at hl 3 rfl) ?_
    refine lv_iload_n hx hb dL_law_937 rfl (lv_at hl 0 rfl) ?_
    refine lv_iconst (v := 3) hx hb dL_law_938 (by decide) ?_
    refine lv_iadd hx hb dL_law_939 ?_
    refine va_sld hx hb hX hbl hbA hS (hw_in (by omega) (by omega)) dL_law_940 ?_
    refine lv_aload_n hx hb dL_law_941 rfl (lv_at hl 3 rfl) ?_
    refine lv_iload_n hx hb dL_law_942 rfl (lv_at hl 0 rfl) ?_
    refine lv_iconst (v := 4) hx hb dL_law_943 (by decide) ?_
    refine lv_iadd hx hb dL_law_944 ?_
    refine va_sld hx hb hX hbl hbA hS (hw_in (by omega) (by omega)) dL_law_945 ?_
    refine lv_i2l hx hb dL_law_946 rfl ?_
    refine lv_topl (fun x211 e212 => ?_)
    have e213 : x5 = x211 := by rw [e6, e212]
    subst e213
    refine lv_bipush (v := 32) hx hb dL_law_947 (by decide) ?_
    refine lv_lshl hx hb dL_law_949 rfl ?_
    refine lv_topl (fun x214 e215 => ?_)
    have e216 : x7 = x214 := by rw [e8, e215]
    subst e216
    refine lv_aload_n hx hb dL_law_950 rfl (lv_at hl 3 rfl) ?_
    refine lv_iload_n hx hb dL_law_951 rfl (lv_at hl 0 rfl) ?_
    refine lv_iconst (v := 5) hx hb dL_law_952 (by decide) ?_
    refine lv_iadd hx hb dL_law_953 ?_
    refine va_sld hx hb hX hbl hbA hS (hw_in (by omega) (by omega)) dL_law_954 ?_
    refine lv_i2l hx hb dL_law_955 rfl ?_
    refine lv_topl (fun x217 e218 => ?_)
    have e219 : x10 = x217 := by rw [e11, e218]
    subst e219
    refine lv_ldc2 (v := 4294967295) hx hb hown (hts (.constantLong RL 126 (4294967295)) (by decide +kernel)) dL_law_956 ?_
    refine lv_land hx hb dL_law_959 ?_
    refine lv_topl (fun x220 e221 => ?_)
    have e222 : x12 = x220 := by rw [e13, e221]
    subst e222
    refine lv_lor hx hb dL_law_960 ?_
    refine lv_topl (fun x223 e224 => ?_)
    have e225 : x14 = x223 := by rw [e15, e224]
    subst e225
    refine hw_cM0 (va_runV (As := [.int (xs (y3 + 1).toNatClampNeg), .int (xs (y3 + 2).toNatClampNeg), .int (xs (y3 + 3).toNatClampNeg), .long x14]) (rest := []) ⟨hx, hb, hml, hown, hts⟩ (k_X12_hang l D G1 mo (xs (y3 + 1).toNatClampNeg) (xs (y3 + 2).toNatClampNeg) (xs (y3 + 3).toNatClampNeg) x14 _ rm udm kym lom wkm dkm lnm smm fim bem rkm rlm rwm clm dgm fla fsz gm Rm ⟨by first | decide | omega, by first | decide | omega⟩ ⟨by first | decide | omega, by first | decide | omega⟩ ⟨by first | decide | omega, by first | decide | omega⟩ ⟨by first | decide | omega, by first | decide | omega⟩ ⟨by first | decide | omega, by first | decide | omega⟩ ⟨by first | decide | omega, by first | decide | omega⟩ ⟨by first | decide | omega, by first | decide | omega⟩ ⟨by first | decide | omega, by first | decide | omega⟩ ⟨by first | decide | omega, by first | decide | omega⟩ ⟨by first | decide | omega, by first | decide | omega⟩ ⟨by first | decide | omega, by first | decide | omega⟩ ⟨by first | decide | omega, by first | decide | omega⟩ qsz) (cwV 4 hts gL_law_X12_hang rfl rfl rfl (by decide +kernel) ⟨Nat.le_of_ble_eq_true rfl, Nat.le_of_ble_eq_true rfl⟩) (hw_pV (hw_rc (q := (RX12, TX12, 45)) hK vm rfl) hH hK hST hS (by decide) (hw_hG hGe1) ⟨vm, vla, vsz⟩) rfl rfl hl.1 rfl (lv_room (Nat.le_of_ble_eq_true rfl)) dL_law_961 ⟨by show _ ≤ 600000; omega, by show _ ≤ 7302250; omega⟩) hS (hw_AWsub (by decide) hGe1 hS.1) (fun v H locs hp hz hk hS => ?_)
    rcases hp with ⟨rfl, hH, v226, v227, v228, q229⟩ | ⟨rfl, hH, v230, v231, v232, q233, q234⟩ | ⟨rfl, hH, v235, v236, v237, q238, q239, q240⟩ | ⟨rfl, hH, v241, v242, v243, q244, q245, q246, q247⟩ | ⟨rfl, hH, v248, v249, v250, q251, q252, q253, q254, q255⟩ | ⟨rfl, hH, v256, v257, v258, q259, q260, q261, q262, q263⟩
    · have hRK := hw_Racks.kept hRK (fun q9 h9 l9 => hk q9 l9 (hw_AWn h9 (by decide) l9))
      have v28 := va_at.kept v28 (hk _ (hw_lt v28) (hw_AWn gx (by decide) (hw_lt v28)))
      have v29 := va_at.kept v29 (hk _ (hw_lt v29) (hw_AWn (hw_RX_13 Rx) (by decide) (hw_lt v29)))
      refine lv_pop hx hb dL_law_964 rfl ?_
      refine lv_goto (tgt := 1186) hx hb dL_law_965 (by decide) ?_
      refine W.widen (k := k + 20) (n := n + 80) (by first | omega | (show _ ≤ _; omega)) (by first | omega | (show _ ≤ _; omega)) ?_
      exact hk9 _ _ _ ⟨G1, rx, rm, pnx, pcx, ksx, scx, udm, kym, lom, wkm, dkm, lnm, smm, fim, bem, rkm, rlm, rwm, clm, dgm, fq, la, sz9, fla, fsz, hH, hGe1, wx, wm, gx, gm, Rx, v28, ⟨by first | decide | omega, by first | decide | omega⟩, v29, hRK, Rm, v226, ⟨by first | decide | omega, by first | decide | omega⟩, ⟨by first | decide | omega, by first | decide | omega⟩, ⟨by first | decide | omega, by first | decide | omega⟩, ⟨by first | decide | omega, by first | decide | omega⟩, ⟨by first | decide | omega, by first | decide | omega⟩, ⟨by first | decide | omega, by first | decide | omega⟩, ⟨by first | decide | omega, by first | decide | omega⟩, ⟨by first | decide | omega, by first | decide | omega⟩, ⟨by first | decide | omega, by first | decide | omega⟩, ⟨by first | decide | omega, by first | decide | omega⟩, ⟨by first | decide | omega, by first | decide | omega⟩, ⟨by first | decide | omega, by first | decide | omega⟩, v227, v228, qsz, hrel⟩ hS hl
    · have hRK := hw_Racks.kept hRK (fun q9 h9 l9 => hk q9 l9 (hw_AWn h9 (by decide) l9))
      have v28 := va_at.kept v28 (hk _ (hw_lt v28) (hw_AWn gx (by decide) (hw_lt v28)))
      have v29 := va_at.kept v29 (hk _ (hw_lt v29) (hw_AWn (hw_RX_13 Rx) (by decide) (hw_lt v29)))
      refine lv_pop hx hb dL_law_964 rfl ?_
      refine lv_goto (tgt := 1186) hx hb dL_law_965 (by decide) ?_
      refine W.widen (k := k + 20) (n := n + 80) (by first | omega | (show _ ≤ _; omega)) (by first | omega | (show _ ≤ _; omega)) ?_
      exact hk9 _ _ _ ⟨G1, rx, rm, pnx, pcx, ksx, scx, udm, kym, lom, wkm, dkm, lnm, smm, fim, bem, rkm, rlm, rwm, clm, dgm, fq, la, sz9, fla, fsz, hH, hGe1, wx, wm, gx, gm, Rx, v28, ⟨by first | decide | omega, by first | decide | omega⟩, v29, hRK, Rm, v230, ⟨by first | decide | omega, by first | decide | omega⟩, ⟨by first | decide | omega, by first | decide | omega⟩, ⟨by first | decide | omega, by first | decide | omega⟩, ⟨by first | decide | omega, by first | decide | omega⟩, ⟨by first | decide | omega, by first | decide | omega⟩, ⟨by first | decide | omega, by first | decide | omega⟩, ⟨by first | decide | omega, by first | decide | omega⟩, ⟨by first | decide | omega, by first | decide | omega⟩, ⟨by first | decide | omega, by first | decide | omega⟩, ⟨by first | decide | omega, by first | decide | omega⟩, ⟨by first | decide | omega, by first | decide | omega⟩, ⟨by first | decide | omega, by first | decide | omega⟩, v231, v232, qsz, hrel⟩ hS hl
    · have hRK := hw_Racks.kept hRK (fun q9 h9 l9 => hk q9 l9 (hw_AWn h9 (by decide) l9))
      have v28 := va_at.kept v28 (hk _ (hw_lt v28) (hw_AWn gx (by decide) (hw_lt v28)))
      have v29 := va_at.kept v29 (hk _ (hw_lt v29) (hw_AWn (hw_RX_13 Rx) (by decide) (hw_lt v29)))
      refine lv_pop hx hb dL_law_964 rfl ?_
      refine lv_goto (tgt := 1186) hx hb dL_law_965 (by decide) ?_
      refine W.widen (k := k + 20) (n := n + 80) (by first | omega | (show _ ≤ _; omega)) (by first | omega | (show _ ≤ _; omega)) ?_
      exact hk9 _ _ _ ⟨G1, rx, rm, pnx, pcx, ksx, scx, udm, kym, lom, wkm, dkm, lnm, smm, fim, bem, rkm, rlm, rwm, clm, dgm, fq, la, sz9, fla, fsz, hH, hGe1, wx, wm, gx, gm, Rx, v28, ⟨by first | decide | omega, by first | decide | omega⟩, v29, hRK, Rm, v235, ⟨by first | decide | omega, by first | decide | omega⟩, ⟨by first | decide | omega, by first | decide | omega⟩, ⟨by first | decide | omega, by first | decide | omega⟩, ⟨by first | decide | omega, by first | decide | omega⟩, ⟨by first | decide | omega, by first | decide | omega⟩, ⟨by first | decide | omega, by first | decide | omega⟩, ⟨by first | decide | omega, by first | decide | omega⟩, ⟨by first | decide | omega, by first | decide | omega⟩, ⟨by first | decide | omega, by first | decide | omega⟩, ⟨by first | decide | omega, by first | decide | omega⟩, ⟨by first | decide | omega, by first | decide | omega⟩, ⟨by first | decide | omega, by first | decide | omega⟩, v236, v237, qsz, hrel⟩ hS hl
    · have hRK := hw_Racks.kept hRK (fun q9 h9 l9 => hk q9 l9 (hw_AWn h9 (by decide) l9))
      have v28 := va_at.kept v28 (hk _ (hw_lt v28) (hw_AWn gx (by decide) (hw_lt v28)))
      have v29 := va_at.kept v29 (hk _ (hw_lt v29) (hw_AWn (hw_RX_13 Rx) (by decide) (hw_lt v29)))
      refine lv_pop hx hb dL_law_964 rfl ?_
      refine lv_goto (tgt := 1186) hx hb dL_law_965 (by decide) ?_
      refine W.widen (k := k + 20) (n := n + 80) (by first | omega | (show _ ≤ _; omega)) (by first | omega | (show _ ≤ _; omega)) ?_
      exact hk9 _ _ _ ⟨G1, rx, rm, pnx, pcx, ksx, scx, udm, kym, lom, wkm, dkm, lnm, smm, fim, bem, rkm, rlm, rwm, clm, dgm, fq, la, sz9, fla, fsz, hH, hGe1, wx, wm, gx, gm, Rx, v28, ⟨by first | decide | omega, by first | decide | omega⟩, v29, hRK, Rm, v241, ⟨by first | decide | omega, by first | decide | omega⟩, ⟨by first | decide | omega, by first | decide | omega⟩, ⟨by first | decide | omega, by first | decide | omega⟩, ⟨by first | decide | omega, by first | decide | omega⟩, ⟨by first | decide | omega, by first | decide | omega⟩, ⟨by first | decide | omega, by first | decide | omega⟩, ⟨by first | decide | omega, by first | decide | omega⟩, ⟨by first | decide | omega, by first | decide | omega⟩, ⟨by first | decide | omega, by first | decide | omega⟩, ⟨by first | decide | omega, by first | decide | omega⟩, ⟨by first | decide | omega, by first | decide | omega⟩, ⟨by first | decide | omega, by first | decide | omega⟩, v242, v243, qsz, hrel⟩ hS hl
    · have hRK := hw_Racks.kept hRK (fun q9 h9 l9 => hk q9 l9 (hw_AWn h9 (by decide) l9))
      have v28 := va_at.kept v28 (hk _ (hw_lt v28) (hw_AWn gx (by decide) (hw_lt v28)))
      have v29 := va_at.kept v29 (hk _ (hw_lt v29) (hw_AWn (hw_RX_13 Rx) (by decide) (hw_lt v29)))
      refine lv_pop hx hb dL_law_964 rfl ?_
      refine lv_goto (tgt := 1186) hx hb dL_law_965 (by decide) ?_
      refine W.widen (k := k + 20) (n := n + 80) (by first | omega | (show _ ≤ _; omega)) (by first | omega | (show _ ≤ _; omega)) ?_
      exact hk9 _ _ _ ⟨G1, rx, rm, pnx, pcx, ksx, scx, udm, kym, lom, wkm, dkm, lnm, smm, fim, bem, rkm, rlm, rwm, clm, dgm, fq, la, sz9, fla, fsz, hH, hGe1, wx, wm, gx, gm, Rx, v28, ⟨by first | decide | omega, by first | decide | omega⟩, v29, hRK, Rm, v248, ⟨by first | decide | omega, by first | decide | omega⟩, ⟨by first | decide | omega, by first | decide | omega⟩, ⟨by first | decide | omega, by first | decide | omega⟩, ⟨by first | decide | omega, by first | decide | omega⟩, ⟨by first | decide | omega, by first | decide | omega⟩, ⟨by first | decide | omega, by first | decide | omega⟩, ⟨by first | decide | omega, by first | decide | omega⟩, ⟨by first | decide | omega, by first | decide | omega⟩, ⟨by first | decide | omega, by first | decide | omega⟩, ⟨by first | decide | omega, by first | decide | omega⟩, ⟨by first | decide | omega, by first | decide | omega⟩, ⟨by first | decide | omega, by first | decide | omega⟩, v249, v250, qsz, hrel⟩ hS hl
    · have hRK := hw_Racks.kept hRK (fun q9 h9 l9 => hk q9 l9 (hw_AWn h9 (by decide) l9))
      have v28 := va_at.kept v28 (hk _ (hw_lt v28) (hw_AWn gx (by decide) (hw_lt v28)))
      have v29 := va_at.kept v29 (hk _ (hw_lt v29) (hw_AWn (hw_RX_13 Rx) (by decide) (hw_lt v29)))
      refine lv_pop hx hb dL_law_964 rfl ?_
      refine lv_goto (tgt := 1186) hx hb dL_law_965 (by decide) ?_
      refine W.widen (k := k + 20) (n := n + 80) (by first | omega | (show _ ≤ _; omega)) (by first | omega | (show _ ≤ _; omega)) ?_
      exact hk9 _ _ _ ⟨G1, rx, rm, pnx, pcx, ksx, scx, udm, kym, lom, wkm, dkm, lnm, smm, fim, bem, rkm, rlm, rwm, clm, dgm, fq, la, sz9, fla, fsz, hH, hGe1, wx, wm, gx, gm, Rx, v28, ⟨by first | decide | omega, by first | decide | omega⟩, v29, hRK, Rm, v256, ⟨by first | decide | omega, by first | decide | omega⟩, ⟨by first | decide | omega, by first | decide | omega⟩, ⟨by first | decide | omega, by first | decide | omega⟩, ⟨by first | decide | omega, by first | decide | omega⟩, ⟨by first | decide | omega, by first | decide | omega⟩, ⟨by first | decide | omega, by first | decide | omega⟩, ⟨by first | decide | omega, by first | decide | omega⟩, ⟨by first | decide | omega, by first | decide | omega⟩, ⟨by first | decide | omega, by first | decide | omega⟩, ⟨by first | decide | omega, by first | decide | omega⟩, ⟨by first | decide | omega, by first | decide | omega⟩, ⟨by first | decide | omega, by first | decide | omega⟩, v257, v258, qsz, hrel⟩ hS hl
  · have vm := va_at.kept vm (hk _ (hw_lt vm) (hw_AWn gm (by decide) (hw_lt vm)))
    have vla := va_at.kept vla (hk _ (hw_lt vla) (hw_AWn (hw_RM_41 Rm) (by decide) (hw_lt vla)))
    have vsz := va_at.kept vsz (hk _ (hw_lt vsz) (hw_AWn (hw_RM_42 Rm) (by decide) (hw_lt vsz)))
    have hr264 : 0 ≤ (xs (y3 + 1).toNatClampNeg).toInt ∧ (xs (y3 + 1).toNatClampNeg).toInt ≤ 3 → ((la (xs (y3 + 1).toNatClampNeg).toNatClampNeg).toInt = -1 ↔ (fsz (xs (y3 + 1).toNatClampNeg).toNatClampNeg).toInt < 0) ∧ ((la (xs (y3 + 1).toNatClampNeg).toNatClampNeg).toInt ≠ -1 → (fla (xs (y3 + 1).toNatClampNeg).toNatClampNeg).toInt = (la (xs (y3 + 1).toNatClampNeg).toNatClampNeg).toInt ∧ (fsz (xs (y3 + 1).toNatClampNeg).toNatClampNeg).toInt = (sz9 (xs (y3 + 1).toNatClampNeg).toNatClampNeg).toInt) := fun h9 => hrel _ (hw_i4 h9)
    refine lv_pop hx hb dL_law_924 rfl ?_
    refine lv_aload_n hx hb dL_law_925 rfl (lv_at hl 1 rfl) ?_
    refine lv_aload_n hx hb dL_law_926 rfl (lv_at hl 3 rfl) ?_
    refine lv_iload_n hx hb dL_law_927 rfl (lv_at hl 0 rfl) ?_
    refine lv_iconst (v := 1) hx hb dL_law_928 (by decide) ?_
    refine lv_iadd hx hb dL_law_929 ?_
    refine va_sld hx hb hX hbl hbA hS (hw_in (by omega) (by omega)) dL_law_930 ?_
    refine lv_aload_n hx hb dL_law_931 rfl (lv_at hl 3 rfl) ?_
    refine lv_iload_n hx hb dL_law_932 rfl (lv_at hl 0 rfl) ?_
    refine lv_iconst (v := 2) hx hb dL_law_933 (by decide) ?_
    refine lv_iadd hx hb dL_law_934 ?_
    refine va_sld hx hb hX hbl hbA hS (hw_in (by omega) (by omega)) dL_law_935 ?_
    refine lv_aload_n hx hb dL_law_936 rfl (lv_at hl 3 rfl) ?_
    refine lv_iload_n hx hb dL_law_937 rfl (lv_at hl 0 rfl) ?_
    refine lv_iconst (v := 3) hx hb dL_law_938 (by decide) ?_
    refine lv_iadd hx hb dL_law_939 ?_
    refine va_sld hx hb hX hbl hbA hS (hw_in (by omega) (by omega)) dL_law_940 ?_
    refine lv_aload_n hx hb dL_law_941 rfl (lv_at hl 3 rfl) ?_
    refine lv_iload_n hx hb dL_law_942 rfl (lv_at hl 0 rfl) ?_
    refine lv_iconst (v := 4) hx hb dL_law_943 (by decide) ?_
    refine lv_iadd hx hb dL_law_944 ?_
    refine va_sld hx hb hX hbl hbA hS (hw_in (by omega) (by omega)) dL_law_945 ?_
    refine lv_i2l hx hb dL_law_946 rfl ?_
    refine lv_topl (fun x265 e266 => ?_)
    have e267 : x5 = x265 := by rw [e6, e266]
    subst e267
    refine lv_bipush (v := 32) hx hb dL_law_947 (by decide) ?_
    refine lv_lshl hx hb dL_law_949 rfl ?_
    refine lv_topl (fun x268 e269 => ?_)
    have e270 : x7 = x268 := by rw [e8, e269]
    subst e270
    refine lv_aload_n hx hb dL_law_950 rfl (lv_at hl 3 rfl) ?_
    refine lv_iload_n hx hb dL_law_951 rfl (lv_at hl 0 rfl) ?_
    refine lv_iconst (v := 5) hx hb dL_law_952 (by decide) ?_
    refine lv_iadd hx hb dL_law_953 ?_
    refine va_sld hx hb hX hbl hbA hS (hw_in (by omega) (by omega)) dL_law_954 ?_
    refine lv_i2l hx hb dL_law_955 rfl ?_
    refine lv_topl (fun x271 e272 => ?_)
    have e273 : x10 = x271 := by rw [e11, e272]
    subst e273
    refine lv_ldc2 (v := 4294967295) hx hb hown (hts (.constantLong RL 126 (4294967295)) (by decide +kernel)) dL_law_956 ?_
    refine lv_land hx hb dL_law_959 ?_
    refine lv_topl (fun x274 e275 => ?_)
    have e276 : x12 = x274 := by rw [e13, e275]
    subst e276
    refine lv_lor hx hb dL_law_960 ?_
    refine lv_topl (fun x277 e278 => ?_)
    have e279 : x14 = x277 := by rw [e15, e278]
    subst e279
    refine hw_cM0 (va_runV (As := [.int (xs (y3 + 1).toNatClampNeg), .int (xs (y3 + 2).toNatClampNeg), .int (xs (y3 + 3).toNatClampNeg), .long x14]) (rest := []) ⟨hx, hb, hml, hown, hts⟩ (k_X12_hang l D G1 mo (xs (y3 + 1).toNatClampNeg) (xs (y3 + 2).toNatClampNeg) (xs (y3 + 3).toNatClampNeg) x14 _ rm udm kym lom wkm dkm lnm smm fim bem rkm rlm rwm clm dgm fla fsz gm Rm ⟨by first | decide | omega, by first | decide | omega⟩ ⟨by first | decide | omega, by first | decide | omega⟩ ⟨by first | decide | omega, by first | decide | omega⟩ ⟨by first | decide | omega, by first | decide | omega⟩ ⟨by first | decide | omega, by first | decide | omega⟩ ⟨by first | decide | omega, by first | decide | omega⟩ ⟨by first | decide | omega, by first | decide | omega⟩ ⟨by first | decide | omega, by first | decide | omega⟩ ⟨by first | decide | omega, by first | decide | omega⟩ ⟨by first | decide | omega, by first | decide | omega⟩ ⟨by first | decide | omega, by first | decide | omega⟩ ⟨by first | decide | omega, by first | decide | omega⟩ qsz) (cwV 4 hts gL_law_X12_hang rfl rfl rfl (by decide +kernel) ⟨Nat.le_of_ble_eq_true rfl, Nat.le_of_ble_eq_true rfl⟩) (hw_pV (hw_rc (q := (RX12, TX12, 45)) hK vm rfl) hH hK hST hS (by decide) (hw_hG hGe1) ⟨vm, vla, vsz⟩) rfl rfl hl.1 rfl (lv_room (Nat.le_of_ble_eq_true rfl)) dL_law_961 ⟨by show _ ≤ 600000; omega, by show _ ≤ 7302250; omega⟩) hS (hw_AWsub (by decide) hGe1 hS.1) (fun v H locs hp hz hk hS => ?_)
    rcases hp with ⟨rfl, hH, v280, v281, v282, q283⟩ | ⟨rfl, hH, v284, v285, v286, q287, q288⟩ | ⟨rfl, hH, v289, v290, v291, q292, q293, q294⟩ | ⟨rfl, hH, v295, v296, v297, q298, q299, q300, q301⟩ | ⟨rfl, hH, v302, v303, v304, q305, q306, q307, q308, q309⟩ | ⟨rfl, hH, v310, v311, v312, q313, q314, q315, q316, q317⟩
    · have hRK := hw_Racks.kept hRK (fun q9 h9 l9 => hk q9 l9 (hw_AWn h9 (by decide) l9))
      have v34 := va_at.kept v34 (hk _ (hw_lt v34) (hw_AWn gx (by decide) (hw_lt v34)))
      have v35 := va_at.kept v35 (hk _ (hw_lt v35) (hw_AWn (hw_RX_13 Rx) (by decide) (hw_lt v35)))
      refine lv_pop hx hb dL_law_964 rfl ?_
      refine lv_goto (tgt := 1186) hx hb dL_law_965 (by decide) ?_
      refine W.widen (k := k + 20) (n := n + 80) (by first | omega | (show _ ≤ _; omega)) (by first | omega | (show _ ≤ _; omega)) ?_
      exact hk9 _ _ _ ⟨G1, rx, rm, pnx, pcx, ksx, scx, udm, kym, lom, wkm, dkm, lnm, smm, fim, bem, rkm, rlm, rwm, clm, dgm, fq, la, sz9, fla, fsz, hH, hGe1, wx, wm, gx, gm, Rx, v34, ⟨by first | decide | omega, by first | decide | omega⟩, v35, hRK, Rm, v280, ⟨by first | decide | omega, by first | decide | omega⟩, ⟨by first | decide | omega, by first | decide | omega⟩, ⟨by first | decide | omega, by first | decide | omega⟩, ⟨by first | decide | omega, by first | decide | omega⟩, ⟨by first | decide | omega, by first | decide | omega⟩, ⟨by first | decide | omega, by first | decide | omega⟩, ⟨by first | decide | omega, by first | decide | omega⟩, ⟨by first | decide | omega, by first | decide | omega⟩, ⟨by first | decide | omega, by first | decide | omega⟩, ⟨by first | decide | omega, by first | decide | omega⟩, ⟨by first | decide | omega, by first | decide | omega⟩, ⟨by first | decide | omega, by first | decide | omega⟩, v281, v282, qsz, hrel⟩ hS hl
    · have hRK := hw_Racks.kept hRK (fun q9 h9 l9 => hk q9 l9 (hw_AWn h9 (by decide) l9))
      have v34 := va_at.kept v34 (hk _ (hw_lt v34) (hw_AWn gx (by decide) (hw_lt v34)))
      have v35 := va_at.kept v35 (hk _ (hw_lt v35) (hw_AWn (hw_RX_13 Rx) (by decide) (hw_lt v35)))
      refine lv_pop hx hb dL_law_964 rfl ?_
      refine lv_goto (tgt := 1186) hx hb dL_law_965 (by decide) ?_
      refine W.widen (k := k + 20) (n := n + 80) (by first | omega | (show _ ≤ _; omega)) (by first | omega | (show _ ≤ _; omega)) ?_
      exact hk9 _ _ _ ⟨G1, rx, rm, pnx, pcx, ksx, scx, udm, kym, lom, wkm, dkm, lnm, smm, fim, bem, rkm, rlm, rwm, clm, dgm, fq, la, sz9, fla, fsz, hH, hGe1, wx, wm, gx, gm, Rx, v34, ⟨by first | decide | omega, by first | decide | omega⟩, v35, hRK, Rm, v284, ⟨by first | decide | omega, by first | decide | omega⟩, ⟨by first | decide | omega, by first | decide | omega⟩, ⟨by first | decide | omega, by first | decide | omega⟩, ⟨by first | decide | omega, by first | decide | omega⟩, ⟨by first | decide | omega, by first | decide | omega⟩, ⟨by first | decide | omega, by first | decide | omega⟩, ⟨by first | decide | omega, by first | decide | omega⟩, ⟨by first | decide | omega, by first | decide | omega⟩, ⟨by first | decide | omega, by first | decide | omega⟩, ⟨by first | decide | omega, by first | decide | omega⟩, ⟨by first | decide | omega, by first | decide | omega⟩, ⟨by first | decide | omega, by first | decide | omega⟩, v285, v286, qsz, hrel⟩ hS hl
    · have hRK := hw_Racks.kept hRK (fun q9 h9 l9 => hk q9 l9 (hw_AWn h9 (by decide) l9))
      have v34 := va_at.kept v34 (hk _ (hw_lt v34) (hw_AWn gx (by decide) (hw_lt v34)))
      have v35 := va_at.kept v35 (hk _ (hw_lt v35) (hw_AWn (hw_RX_13 Rx) (by decide) (hw_lt v35)))
      refine lv_pop hx hb dL_law_964 rfl ?_
      refine lv_goto (tgt := 1186) hx hb dL_law_965 (by decide) ?_
      refine W.widen (k := k + 20) (n := n + 80) (by first | omega | (show _ ≤ _; omega)) (by first | omega | (show _ ≤ _; omega)) ?_
      exact hk9 _ _ _ ⟨G1, rx, rm, pnx, pcx, ksx, scx, udm, kym, lom, wkm, dkm, lnm, smm, fim, bem, rkm, rlm, rwm, clm, dgm, fq, la, sz9, fla, fsz, hH, hGe1, wx, wm, gx, gm, Rx, v34, ⟨by first | decide | omega, by first | decide | omega⟩, v35, hRK, Rm, v289, ⟨by first | decide | omega, by first | decide | omega⟩, ⟨by first | decide | omega, by first | decide | omega⟩, ⟨by first | decide | omega, by first | decide | omega⟩, ⟨by first | decide | omega, by first | decide | omega⟩, ⟨by first | decide | omega, by first | decide | omega⟩, ⟨by first | decide | omega, by first | decide | omega⟩, ⟨by first | decide | omega, by first | decide | omega⟩, ⟨by first | decide | omega, by first | decide | omega⟩, ⟨by first | decide | omega, by first | decide | omega⟩, ⟨by first | decide | omega, by first | decide | omega⟩, ⟨by first | decide | omega, by first | decide | omega⟩, ⟨by first | decide | omega, by first | decide | omega⟩, v290, v291, qsz, hrel⟩ hS hl
    · have hRK := hw_Racks.kept hRK (fun q9 h9 l9 => hk q9 l9 (hw_AWn h9 (by decide) l9))
      have v34 := va_at.kept v34 (hk _ (hw_lt v34) (hw_AWn gx (by decide) (hw_lt v34)))
      have v35 := va_at.kept v35 (hk _ (hw_lt v35) (hw_AWn (hw_RX_13 Rx) (by decide) (hw_lt v35)))
      refine lv_pop hx hb dL_law_964 rfl ?_
      refine lv_goto (tgt := 1186) hx hb dL_law_965 (by decide) ?_
      refine W.widen (k := k + 20) (n := n + 80) (by first | omega | (show _ ≤ _; omega)) (by first | omega | (show _ ≤ _; omega)) ?_
      exact hk9 _ _ _ ⟨G1, rx, rm, pnx, pcx, ksx, scx, udm, kym, lom, wkm, dkm, lnm, smm, fim, bem, rkm, rlm, rwm, clm, dgm, fq, la, sz9, fla, fsz, hH, hGe1, wx, wm, gx, gm, Rx, v34, ⟨by first | decide | omega, by first | decide | omega⟩, v35, hRK, Rm, v295, ⟨by first | decide | omega, by first | decide | omega⟩, ⟨by first | decide | omega, by first | decide | omega⟩, ⟨by first | decide | omega, by first | decide | omega⟩, ⟨by first | decide | omega, by first | decide | omega⟩, ⟨by first | decide | omega, by first | decide | omega⟩, ⟨by first | decide | omega, by first | decide | omega⟩, ⟨by first | decide | omega, by first | decide | omega⟩, ⟨by first | decide | omega, by first | decide | omega⟩, ⟨by first | decide | omega, by first | decide | omega⟩, ⟨by first | decide | omega, by first | decide | omega⟩, ⟨by first | decide | omega, by first | decide | omega⟩, ⟨by first | decide | omega, by first | decide | omega⟩, v296, v297, qsz, hrel⟩ hS hl
    · have hRK := hw_Racks.kept hRK (fun q9 h9 l9 => hk q9 l9 (hw_AWn h9 (by decide) l9))
      have v34 := va_at.kept v34 (hk _ (hw_lt v34) (hw_AWn gx (by decide) (hw_lt v34)))
      have v35 := va_at.kept v35 (hk _ (hw_lt v35) (hw_AWn (hw_RX_13 Rx) (by decide) (hw_lt v35)))
      refine lv_pop hx hb dL_law_964 rfl ?_
      refine lv_goto (tgt := 1186) hx hb dL_law_965 (by decide) ?_
      refine W.widen (k := k + 20) (n := n + 80) (by first | omega | (show _ ≤ _; omega)) (by first | omega | (show _ ≤ _; omega)) ?_
      exact hk9 _ _ _ ⟨G1, rx, rm, pnx, pcx, ksx, scx, udm, kym, lom, wkm, dkm, lnm, smm, fim, bem, rkm, rlm, rwm, clm, dgm, fq, la, sz9, fla, fsz, hH, hGe1, wx, wm, gx, gm, Rx, v34, ⟨by first | decide | omega, by first | decide | omega⟩, v35, hRK, Rm, v302, ⟨by first | decide | omega, by first | decide | omega⟩, ⟨by first | decide | omega, by first | decide | omega⟩, ⟨by first | decide | omega, by first | decide | omega⟩, ⟨by first | decide | omega, by first | decide | omega⟩, ⟨by first | decide | omega, by first | decide | omega⟩, ⟨by first | decide | omega, by first | decide | omega⟩, ⟨by first | decide | omega, by first | decide | omega⟩, ⟨by first | decide | omega, by first | decide | omega⟩, ⟨by first | decide | omega, by first | decide | omega⟩, ⟨by first | decide | omega, by first | decide | omega⟩, ⟨by first | decide | omega, by first | decide | omega⟩, ⟨by first | decide | omega, by first | decide | omega⟩, v303, v304, qsz, hrel⟩ hS hl
    · have hRK := hw_Racks.kept hRK (fun q9 h9 l9 => hk q9 l9 (hw_AWn h9 (by decide) l9))
      have v34 := va_at.kept v34 (hk _ (hw_lt v34) (hw_AWn gx (by decide) (hw_lt v34)))
      have v35 := va_at.kept v35 (hk _ (hw_lt v35) (hw_AWn (hw_RX_13 Rx) (by decide) (hw_lt v35)))
      refine lv_pop hx hb dL_law_964 rfl ?_
      refine lv_goto (tgt := 1186) hx hb dL_law_965 (by decide) ?_
      refine W.widen (k := k + 20) (n := n + 80) (by first | omega | (show _ ≤ _; omega)) (by first | omega | (show _ ≤ _; omega)) ?_
      exact hk9 _ _ _ ⟨G1, rx, rm, pnx, pcx, ksx, scx, udm, kym, lom, wkm, dkm, lnm, smm, fim, bem, rkm, rlm, rwm, clm, dgm, fq, la, sz9, fla, fsz, hH, hGe1, wx, wm, gx, gm, Rx, v34, ⟨by first | decide | omega, by first | decide | omega⟩, v35, hRK, Rm, v310, ⟨by first | decide | omega, by first | decide | omega⟩, ⟨by first | decide | omega, by first | decide | omega⟩, ⟨by first | decide | omega, by first | decide | omega⟩, ⟨by first | decide | omega, by first | decide | omega⟩, ⟨by first | decide | omega, by first | decide | omega⟩, ⟨by first | decide | omega, by first | decide | omega⟩, ⟨by first | decide | omega, by first | decide | omega⟩, ⟨by first | decide | omega, by first | decide | omega⟩, ⟨by first | decide | omega, by first | decide | omega⟩, ⟨by first | decide | omega, by first | decide | omega⟩, ⟨by first | decide | omega, by first | decide | omega⟩, ⟨by first | decide | omega, by first | decide | omega⟩, v311, v312, qsz, hrel⟩ hS hl
  · have vm := va_at.kept vm (hk _ (hw_lt vm) (hw_AWn gm (by decide) (hw_lt vm)))
    have vla := va_at.kept vla (hk _ (hw_lt vla) (hw_AWn (hw_RM_41 Rm) (by decide) (hw_lt vla)))
    have vsz := va_at.kept vsz (hk _ (hw_lt vsz) (hw_AWn (hw_RM_42 Rm) (by decide) (hw_lt vsz)))
    have hr318 : 0 ≤ (xs (y3 + 1).toNatClampNeg).toInt ∧ (xs (y3 + 1).toNatClampNeg).toInt ≤ 3 → ((la (xs (y3 + 1).toNatClampNeg).toNatClampNeg).toInt = -1 ↔ (fsz (xs (y3 + 1).toNatClampNeg).toNatClampNeg).toInt < 0) ∧ ((la (xs (y3 + 1).toNatClampNeg).toNatClampNeg).toInt ≠ -1 → (fla (xs (y3 + 1).toNatClampNeg).toNatClampNeg).toInt = (la (xs (y3 + 1).toNatClampNeg).toNatClampNeg).toInt ∧ (fsz (xs (y3 + 1).toNatClampNeg).toNatClampNeg).toInt = (sz9 (xs (y3 + 1).toNatClampNeg).toNatClampNeg).toInt) := fun h9 => hrel _ (hw_i4 h9)
    refine lv_pop hx hb dL_law_924 rfl ?_
    refine lv_aload_n hx hb dL_law_925 rfl (lv_at hl 1 rfl) ?_
    refine lv_aload_n hx hb dL_law_926 rfl (lv_at hl 3 rfl) ?_
    refine lv_iload_n hx hb dL_law_927 rfl (lv_at hl 0 rfl) ?_
    refine lv_iconst (v := 1) hx hb dL_law_928 (by decide) ?_
    refine lv_iadd hx hb dL_law_929 ?_
    refine va_sld hx hb hX hbl hbA hS (hw_in (by omega) (by omega)) dL_law_930 ?_
    refine lv_aload_n hx hb dL_law_931 rfl (lv_at hl 3 rfl) ?_
    refine lv_iload_n hx hb dL_law_932 rfl (lv_at hl 0 rfl) ?_
    refine lv_iconst (v := 2) hx hb dL_law_933 (by decide) ?_
    refine lv_iadd hx hb dL_law_934 ?_
    refine va_sld hx hb hX hbl hbA hS (hw_in (by omega) (by omega)) dL_law_935 ?_
    refine lv_aload_n hx hb dL_law_936 rfl (lv_at hl 3 rfl) ?_
    refine lv_iload_n hx hb dL_law_937 rfl (lv_at hl 0 rfl) ?_
    refine lv_iconst (v := 3) hx hb dL_law_938 (by decide) ?_
    refine lv_iadd hx hb dL_law_939 ?_
    refine va_sld hx hb hX hbl hbA hS (hw_in (by omega) (by omega)) dL_law_940 ?_
    refine lv_aload_n hx hb dL_law_941 rfl (lv_at hl 3 rfl) ?_
    refine lv_iload_n hx hb dL_law_942 rfl (lv_at hl 0 rfl) ?_
    refine lv_iconst (v := 4) hx hb dL_law_943 (by decide) ?_
    refine lv_iadd hx hb dL_law_944 ?_
    refine va_sld hx hb hX hbl hbA hS (hw_in (by omega) (by omega)) dL_law_945 ?_
    refine lv_i2l hx hb dL_law_946 rfl ?_
    refine lv_topl (fun x319 e320 => ?_)
    have e321 : x5 = x319 := by rw [e6, e320]
    subst e321
    refine lv_bipush (v := 32) hx hb dL_law_947 (by decide) ?_
    refine lv_lshl hx hb dL_law_949 rfl ?_
    refine lv_topl (fun x322 e323 => ?_)
    have e324 : x7 = x322 := by rw [e8, e323]
    subst e324
    refine lv_aload_n hx hb dL_law_950 rfl (lv_at hl 3 rfl) ?_
    refine lv_iload_n hx hb dL_law_951 rfl (lv_at hl 0 rfl) ?_
    refine lv_iconst (v := 5) hx hb dL_law_952 (by decide) ?_
    refine lv_iadd hx hb dL_law_953 ?_
    refine va_sld hx hb hX hbl hbA hS (hw_in (by omega) (by omega)) dL_law_954 ?_
    refine lv_i2l hx hb dL_law_955 rfl ?_
    refine lv_topl (fun x325 e326 => ?_)
    have e327 : x10 = x325 := by rw [e11, e326]
    subst e327
    refine lv_ldc2 (v := 4294967295) hx hb hown (hts (.constantLong RL 126 (4294967295)) (by decide +kernel)) dL_law_956 ?_
    refine lv_land hx hb dL_law_959 ?_
    refine lv_topl (fun x328 e329 => ?_)
    have e330 : x12 = x328 := by rw [e13, e329]
    subst e330
    refine lv_lor hx hb dL_law_960 ?_
    refine lv_topl (fun x331 e332 => ?_)
    have e333 : x14 = x331 := by rw [e15, e332]
    subst e333
    refine hw_cM0 (va_runV (As := [.int (xs (y3 + 1).toNatClampNeg), .int (xs (y3 + 2).toNatClampNeg), .int (xs (y3 + 3).toNatClampNeg), .long x14]) (rest := []) ⟨hx, hb, hml, hown, hts⟩ (k_X12_hang l D G1 mo (xs (y3 + 1).toNatClampNeg) (xs (y3 + 2).toNatClampNeg) (xs (y3 + 3).toNatClampNeg) x14 _ rm udm kym lom wkm dkm lnm smm fim bem rkm rlm rwm clm dgm fla fsz gm Rm ⟨by first | decide | omega, by first | decide | omega⟩ ⟨by first | decide | omega, by first | decide | omega⟩ ⟨by first | decide | omega, by first | decide | omega⟩ ⟨by first | decide | omega, by first | decide | omega⟩ ⟨by first | decide | omega, by first | decide | omega⟩ ⟨by first | decide | omega, by first | decide | omega⟩ ⟨by first | decide | omega, by first | decide | omega⟩ ⟨by first | decide | omega, by first | decide | omega⟩ ⟨by first | decide | omega, by first | decide | omega⟩ ⟨by first | decide | omega, by first | decide | omega⟩ ⟨by first | decide | omega, by first | decide | omega⟩ ⟨by first | decide | omega, by first | decide | omega⟩ qsz) (cwV 4 hts gL_law_X12_hang rfl rfl rfl (by decide +kernel) ⟨Nat.le_of_ble_eq_true rfl, Nat.le_of_ble_eq_true rfl⟩) (hw_pV (hw_rc (q := (RX12, TX12, 45)) hK vm rfl) hH hK hST hS (by decide) (hw_hG hGe1) ⟨vm, vla, vsz⟩) rfl rfl hl.1 rfl (lv_room (Nat.le_of_ble_eq_true rfl)) dL_law_961 ⟨by show _ ≤ 600000; omega, by show _ ≤ 7302250; omega⟩) hS (hw_AWsub (by decide) hGe1 hS.1) (fun v H locs hp hz hk hS => ?_)
    rcases hp with ⟨rfl, hH, v334, v335, v336, q337⟩ | ⟨rfl, hH, v338, v339, v340, q341, q342⟩ | ⟨rfl, hH, v343, v344, v345, q346, q347, q348⟩ | ⟨rfl, hH, v349, v350, v351, q352, q353, q354, q355⟩ | ⟨rfl, hH, v356, v357, v358, q359, q360, q361, q362, q363⟩ | ⟨rfl, hH, v364, v365, v366, q367, q368, q369, q370, q371⟩
    · have hRK := hw_Racks.kept hRK (fun q9 h9 l9 => hk q9 l9 (hw_AWn h9 (by decide) l9))
      have v41 := va_at.kept v41 (hk _ (hw_lt v41) (hw_AWn gx (by decide) (hw_lt v41)))
      have v42 := va_at.kept v42 (hk _ (hw_lt v42) (hw_AWn (hw_RX_13 Rx) (by decide) (hw_lt v42)))
      refine lv_pop hx hb dL_law_964 rfl ?_
      refine lv_goto (tgt := 1186) hx hb dL_law_965 (by decide) ?_
      refine W.widen (k := k + 20) (n := n + 80) (by first | omega | (show _ ≤ _; omega)) (by first | omega | (show _ ≤ _; omega)) ?_
      exact hk9 _ _ _ ⟨G1, rx, rm, pnx, pcx, ksx, scx, udm, kym, lom, wkm, dkm, lnm, smm, fim, bem, rkm, rlm, rwm, clm, dgm, fq, la, sz9, fla, fsz, hH, hGe1, wx, wm, gx, gm, Rx, v41, ⟨by first | decide | omega, by first | decide | omega⟩, v42, hRK, Rm, v334, ⟨by first | decide | omega, by first | decide | omega⟩, ⟨by first | decide | omega, by first | decide | omega⟩, ⟨by first | decide | omega, by first | decide | omega⟩, ⟨by first | decide | omega, by first | decide | omega⟩, ⟨by first | decide | omega, by first | decide | omega⟩, ⟨by first | decide | omega, by first | decide | omega⟩, ⟨by first | decide | omega, by first | decide | omega⟩, ⟨by first | decide | omega, by first | decide | omega⟩, ⟨by first | decide | omega, by first | decide | omega⟩, ⟨by first | decide | omega, by first | decide | omega⟩, ⟨by first | decide | omega, by first | decide | omega⟩, ⟨by first | decide | omega, by first | decide | omega⟩, v335, v336, qsz, hrel⟩ hS hl
    · have hRK := hw_Racks.kept hRK (fun q9 h9 l9 => hk q9 l9 (hw_AWn h9 (by decide) l9))
      have v41 := va_at.kept v41 (hk _ (hw_lt v41) (hw_AWn gx (by decide) (hw_lt v41)))
      have v42 := va_at.kept v42 (hk _ (hw_lt v42) (hw_AWn (hw_RX_13 Rx) (by decide) (hw_lt v42)))
      refine lv_pop hx hb dL_law_964 rfl ?_
      refine lv_goto (tgt := 1186) hx hb dL_law_965 (by decide) ?_
      refine W.widen (k := k + 20) (n := n + 80) (by first | omega | (show _ ≤ _; omega)) (by first | omega | (show _ ≤ _; omega)) ?_
      exact hk9 _ _ _ ⟨G1, rx, rm, pnx, pcx, ksx, scx, udm, kym, lom, wkm, dkm, lnm, smm, fim, bem, rkm, rlm, rwm, clm, dgm, fq, la, sz9, fla, fsz, hH, hGe1, wx, wm, gx, gm, Rx, v41, ⟨by first | decide | omega, by first | decide | omega⟩, v42, hRK, Rm, v338, ⟨by first | decide | omega, by first | decide | omega⟩, ⟨by first | decide | omega, by first | decide | omega⟩, ⟨by first | decide | omega, by first | decide | omega⟩, ⟨by first | decide | omega, by first | decide | omega⟩, ⟨by first | decide | omega, by first | decide | omega⟩, ⟨by first | decide | omega, by first | decide | omega⟩, ⟨by first | decide | omega, by first | decide | omega⟩, ⟨by first | decide | omega, by first | decide | omega⟩, ⟨by first | decide | omega, by first | decide | omega⟩, ⟨by first | decide | omega, by first | decide | omega⟩, ⟨by first | decide | omega, by first | decide | omega⟩, ⟨by first | decide | omega, by first | decide | omega⟩, v339, v340, qsz, hrel⟩ hS hl
    · have hRK := hw_Racks.kept hRK (fun q9 h9 l9 => hk q9 l9 (hw_AWn h9 (by decide) l9))
      have v41 := va_at.kept v41 (hk _ (hw_lt v41) (hw_AWn gx (by decide) (hw_lt v41)))
      have v42 := va_at.kept v42 (hk _ (hw_lt v42) (hw_AWn (hw_RX_13 Rx) (by decide) (hw_lt v42)))
      refine lv_pop hx hb dL_law_964 rfl ?_
      refine lv_goto (tgt := 1186) hx hb dL_law_965 (by decide) ?_
      refine W.widen (k := k + 20) (n := n + 80) (by first | omega | (show _ ≤ _; omega)) (by first | omega | (show _ ≤ _; omega)) ?_
      exact hk9 _ _ _ ⟨G1, rx, rm, pnx, pcx, ksx, scx, udm, kym, lom, wkm, dkm, lnm, smm, fim, bem, rkm, rlm, rwm, clm, dgm, fq, la, sz9, fla, fsz, hH, hGe1, wx, wm, gx, gm, Rx, v41, ⟨by first | decide | omega, by first | decide | omega⟩, v42, hRK, Rm, v343, ⟨by first | decide | omega, by first | decide | omega⟩, ⟨by first | decide | omega, by first | decide | omega⟩, ⟨by first | decide | omega, by first | decide | omega⟩, ⟨by first | decide | omega, by first | decide | omega⟩, ⟨by first | decide | omega, by first | decide | omega⟩, ⟨by first | decide | omega, by first | decide | omega⟩, ⟨by first | decide | omega, by first | decide | omega⟩, ⟨by first | decide | omega, by first | decide | omega⟩, ⟨by first | decide | omega, by first | decide | omega⟩, ⟨by first | decide | omega, by first | decide | omega⟩, ⟨by first | decide | omega, by first | decide | omega⟩, ⟨by first | decide | omega, by first | decide | omega⟩, v344, v345, qsz, hrel⟩ hS hl
    · have hRK := hw_Racks.kept hRK (fun q9 h9 l9 => hk q9 l9 (hw_AWn h9 (by decide) l9))
      have v41 := va_at.kept v41 (hk _ (hw_lt v41) (hw_AWn gx (by decide) (hw_lt v41)))
      have v42 := va_at.kept v42 (hk _ (hw_lt v42) (hw_AWn (hw_RX_13 Rx) (by decide) (hw_lt v42)))
      refine lv_pop hx hb dL_law_964 rfl ?_
      refine lv_goto (tgt := 1186) hx hb dL_law_965 (by decide) ?_
      refine W.widen (k := k + 20) (n := n + 80) (by first | omega | (show _ ≤ _; omega)) (by first | omega | (show _ ≤ _; omega)) ?_
      exact hk9 _ _ _ ⟨G1, rx, rm, pnx, pcx, ksx, scx, udm, kym, lom, wkm, dkm, lnm, smm, fim, bem, rkm, rlm, rwm, clm, dgm, fq, la, sz9, fla, fsz, hH, hGe1, wx, wm, gx, gm, Rx, v41, ⟨by first | decide | omega, by first | decide | omega⟩, v42, hRK, Rm, v349, ⟨by first | decide | omega, by first | decide | omega⟩, ⟨by first | decide | omega, by first | decide | omega⟩, ⟨by first | decide | omega, by first | decide | omega⟩, ⟨by first | decide | omega, by first | decide | omega⟩, ⟨by first | decide | omega, by first | decide | omega⟩, ⟨by first | decide | omega, by first | decide | omega⟩, ⟨by first | decide | omega, by first | decide | omega⟩, ⟨by first | decide | omega, by first | decide | omega⟩, ⟨by first | decide | omega, by first | decide | omega⟩, ⟨by first | decide | omega, by first | decide | omega⟩, ⟨by first | decide | omega, by first | decide | omega⟩, ⟨by first | decide | omega, by first | decide | omega⟩, v350, v351, qsz, hrel⟩ hS hl
    · have hRK := hw_Racks.kept hRK (fun q9 h9 l9 => hk q9 l9 (hw_AWn h9 (by decide) l9))
      have v41 := va_at.kept v41 (hk _ (hw_lt v41) (hw_AWn gx (by decide) (hw_lt v41)))
      have v42 := va_at.kept v42 (hk _ (hw_lt v42) (hw_AWn (hw_RX_13 Rx) (by decide) (hw_lt v42)))
      refine lv_pop hx hb dL_law_964 rfl ?_
      refine lv_goto (tgt := 1186) hx hb dL_law_965 (by decide) ?_
      refine W.widen (k := k + 20) (n := n + 80) (by first | omega | (show _ ≤ _; omega)) (by first | omega | (show _ ≤ _; omega)) ?_
      exact hk9 _ _ _ ⟨G1, rx, rm, pnx, pcx, ksx, scx, udm, kym, lom, wkm, dkm, lnm, smm, fim, bem, rkm, rlm, rwm, clm, dgm, fq, la, sz9, fla, fsz, hH, hGe1, wx, wm, gx, gm, Rx, v41, ⟨by first | decide | omega, by first | decide | omega⟩, v42, hRK, Rm, v356, ⟨by first | decide | omega, by first | decide | omega⟩, ⟨by first | decide | omega, by first | decide | omega⟩, ⟨by first | decide | omega, by first | decide | omega⟩, ⟨by first | decide | omega, by first | decide | omega⟩, ⟨by first | decide | omega, by first | decide | omega⟩, ⟨by first | decide | omega, by first | decide | omega⟩, ⟨by first | decide | omega, by first | decide | omega⟩, ⟨by first | decide | omega, by first | decide | omega⟩, ⟨by first | decide | omega, by first | decide | omega⟩, ⟨by first | decide | omega, by first | decide | omega⟩, ⟨by first | decide | omega, by first | decide | omega⟩, ⟨by first | decide | omega, by first | decide | omega⟩, v357, v358, qsz, hrel⟩ hS hl
    · have hRK := hw_Racks.kept hRK (fun q9 h9 l9 => hk q9 l9 (hw_AWn h9 (by decide) l9))
      have v41 := va_at.kept v41 (hk _ (hw_lt v41) (hw_AWn gx (by decide) (hw_lt v41)))
      have v42 := va_at.kept v42 (hk _ (hw_lt v42) (hw_AWn (hw_RX_13 Rx) (by decide) (hw_lt v42)))
      refine lv_pop hx hb dL_law_964 rfl ?_
      refine lv_goto (tgt := 1186) hx hb dL_law_965 (by decide) ?_
      refine W.widen (k := k + 20) (n := n + 80) (by first | omega | (show _ ≤ _; omega)) (by first | omega | (show _ ≤ _; omega)) ?_
      exact hk9 _ _ _ ⟨G1, rx, rm, pnx, pcx, ksx, scx, udm, kym, lom, wkm, dkm, lnm, smm, fim, bem, rkm, rlm, rwm, clm, dgm, fq, la, sz9, fla, fsz, hH, hGe1, wx, wm, gx, gm, Rx, v41, ⟨by first | decide | omega, by first | decide | omega⟩, v42, hRK, Rm, v364, ⟨by first | decide | omega, by first | decide | omega⟩, ⟨by first | decide | omega, by first | decide | omega⟩, ⟨by first | decide | omega, by first | decide | omega⟩, ⟨by first | decide | omega, by first | decide | omega⟩, ⟨by first | decide | omega, by first | decide | omega⟩, ⟨by first | decide | omega, by first | decide | omega⟩, ⟨by first | decide | omega, by first | decide | omega⟩, ⟨by first | decide | omega, by first | decide | omega⟩, ⟨by first | decide | omega, by first | decide | omega⟩, ⟨by first | decide | omega, by first | decide | omega⟩, ⟨by first | decide | omega, by first | decide | omega⟩, ⟨by first | decide | omega, by first | decide | omega⟩, v365, v366, qsz, hrel⟩ hS hl

set_option maxHeartbeats 40000000 in
set_option maxRecDepth 100000 in
theorem hw_case968 {p : Program} {e : Env} {s : State} {m : MethodId} {below : List Frame} {meth : Method} {c : Code} (l : Launch) {b L : Nat} {xs : Nat → Int32} {D : hw_D} {G : Nat → Nat} {H : Heap} {locs : List Loc} {x mo k n : Nat} {y3 : Int32} {ls : Array Slot} (hL : L ≤ 384) (hy0 : 0 ≤ y3.toInt ∧ y3.toInt ≤ 384) (hy : y3.toInt + 6 ≤ L) (hkc : k + 20 ≤ 600000) (hnc : n + 80 ≤ 7302250) (hx : p.tables.exec = Jvm.exec) (hb : c.code = code) (hr : meth.sig.returnType = ret) (hml : c.maxLocals = 4) (hown : s.vm.findClass R_law = some m.cls) (hts0 : ∀ w ∈ lw_tbl, w.before #[Value.ref b] s = true) (hts : ∀ w ∈ wsL_law, w.before #[Value.ref b] s = true) (hX : va_X b L xs s s.heap) (hbl : b < s.heap.size) (hlocks : meth.locks = false) (hG0 : G = fun _ => 0) (hK : va_K D.1 vwCl (hw_ty D.2.1) s) (hST : hw_ST D.2.2 G s.heap.size s) (hI : hw_I D G s H x mo) (hS : va_S (hw_AW G [1, 2, 3, 4, 5, 6, 7, 8, 9, 10, 11, 12, 13, 14, 15, 16, 17, 18, 19, 20, 21, 22, 23, 24, 25, 26, 27, 28, 29, 30, 31, 32, 40, 42, 44, 45, 46, 48, 49, 50, 51, 53, 55, 58, 59, 67, 68, 69, 70, 71, 72, 73, 74, 75, 76, 77, 78, 79, 80, 81, 82, 83, 84, 101, 102, 103, 104, 105, 106, 107, 108, 109, 127, 128, 129, 132] s.heap.size) s.heap H locs) (hl : lv_has ls 4 [(3, .int y3), (2, .ref mo), (1, .ref x), (0, .ref b)]) (hk9 : ∀ (H1 : Heap) (locs1 : List Loc) (ls1 : Array Slot), hw_I D G s H1 x mo → va_S (hw_AW G [1, 2, 3, 4, 5, 6, 7, 8, 9, 10, 11, 12, 13, 14, 15, 16, 17, 18, 19, 20, 21, 22, 23, 24, 25, 26, 27, 28, 29, 30, 31, 32, 40, 42, 44, 45, 46, 48, 49, 50, 51, 53, 55, 58, 59, 67, 68, 69, 70, 71, 72, 73, 74, 75, 76, 77, 78, 79, 80, 81, 82, 83, 84, 101, 102, 103, 104, 105, 106, 107, 108, 109, 127, 128, 129, 132] s.heap.size) s.heap H1 locs1 → lv_has ls1 4 [(3, .int y3), (2, .ref mo), (1, .ref x), (0, .ref b)] → W p l e room_1 s m #[Value.ref b] below meth c H1 locs1 (k + 20) (n + 80) (lw_Z below #[Value.ref b] s) (F0 m 1186 ls1 [])) : W p l e room_1 s m #[Value.ref b] below meth c H locs k n (lw_Z below #[Value.ref b] s) (F0 m 968 ls []) := by
  have hH0 : hw_HT D G s.heap := fun a h => absurd (by rw [hG0]) h
  have hbA : ¬ (hw_AW G [1, 2, 3, 4, 5, 6, 7, 8, 9, 10, 11, 12, 13, 14, 15, 16, 17, 18, 19, 20, 21, 22, 23, 24, 25, 26, 27, 28, 29, 30, 31, 32, 40, 42, 44, 45, 46, 48, 49, 50, 51, 53, 55, 58, 59, 67, 68, 69, 70, 71, 72, 73, 74, 75, 76, 77, 78, 79, 80, 81, 82, 83, 84, 101, 102, 103, 104, 105, 106, 107, 108, 109, 127, 128, 129, 132] s.heap.size) b := hw_AWn (k := 0) (by rw [hG0]) (by decide) hbl
  have hLi : (Int32.ofNat L).toInt = (L : Int) := nI_toInt (by omega)
  refine hw_I_elim hI ?_
  intro G1 rx rm pnx pcx ksx scx udm kym lom wkm dkm lnm smm fim bem rkm rlm rwm clm dgm fq la sz9 fla fsz hH hGe1 wx wm gx gm Rx vx gsc vq hRK Rm vm gm0 gm1 gm2 gm3 gm4 gm5 gm6 gm7 gm8 gm9 gm10 gm11 vla vsz qsz hrel
  have hHs := hH0
  have qq := hRK.q
  refine lv_aload_n hx hb dL_law_968 rfl (lv_at hl 2 rfl) ?_
  refine lv_aload_n hx hb dL_law_969 rfl (lv_at hl 3 rfl) ?_
  refine lv_iload_n hx hb dL_law_970 rfl (lv_at hl 0 rfl) ?_
  refine lv_iconst (v := 1) hx hb dL_law_971 (by decide) ?_
  refine lv_iadd hx hb dL_law_972 ?_
  have t1 : (y3 + 1).toInt = y3.toInt + 1 := hw_add rfl rfl (by omega) (by omega)
  refine va_sld hx hb hX hbl hbA hS (hw_in (by omega) (by omega)) dL_law_973 ?_
  refine lv_aload_n hx hb dL_law_974 rfl (lv_at hl 3 rfl) ?_
  refine lv_iload_n hx hb dL_law_975 rfl (lv_at hl 0 rfl) ?_
  refine lv_iconst (v := 2) hx hb dL_law_976 (by decide) ?_
  refine lv_iadd hx hb dL_law_977 ?_
  have t2 : (y3 + 2).toInt = y3.toInt + 2 := hw_add rfl rfl (by omega) (by omega)
  refine va_sld hx hb hX hbl hbA hS (hw_in (by omega) (by omega)) dL_law_978 ?_
  refine hw_cR (va_runV (As := [.int (xs (y3 + 1).toNatClampNeg), .int (xs (y3 + 2).toNatClampNeg)]) (rest := []) ⟨hx, hb, hml, hown, hts⟩ (k_X11_look l D G1 x (xs (y3 + 1).toNatClampNeg) (xs (y3 + 2).toNatClampNeg) _ la sz9 rx pnx pcx ksx scx fq gx Rx ⟨by first | decide | omega, by first | decide | omega⟩ qq) (cwV 2 hts gL_law_X11_look rfl rfl rfl (by decide +kernel) ⟨Nat.le_of_ble_eq_true rfl, Nat.le_of_ble_eq_true rfl⟩) (hw_pV (hw_rc (q := (RX11, TX11, 14)) hK vx rfl) hH hK hST hS (by decide) (hw_hG hGe1) ⟨vx, vq, hRK⟩) rfl rfl hl.1 rfl (lv_room (Nat.le_of_ble_eq_true rfl)) dL_law_979 ⟨by show _ ≤ 600000; omega, by show _ ≤ 7302250; omega⟩) (fun v hp => ?_)
  rcases hp with ⟨rfl, q3⟩ | ⟨rfl, q4, q5⟩ | ⟨rfl, q6, q7, q8⟩ | ⟨x9, rfl, q10, q11⟩
  · have hr12 : 0 ≤ (xs (y3 + 1).toNatClampNeg).toInt ∧ (xs (y3 + 1).toNatClampNeg).toInt ≤ 3 → ((la (xs (y3 + 1).toNatClampNeg).toNatClampNeg).toInt = -1 ↔ (fsz (xs (y3 + 1).toNatClampNeg).toNatClampNeg).toInt < 0) ∧ ((la (xs (y3 + 1).toNatClampNeg).toNatClampNeg).toInt ≠ -1 → (fla (xs (y3 + 1).toNatClampNeg).toNatClampNeg).toInt = (la (xs (y3 + 1).toNatClampNeg).toNatClampNeg).toInt ∧ (fsz (xs (y3 + 1).toNatClampNeg).toNatClampNeg).toInt = (sz9 (xs (y3 + 1).toNatClampNeg).toNatClampNeg).toInt) := fun h9 => hrel _ (hw_i4 h9)
    refine lv_pop2_2 hx hb dL_law_982 rfl ?_
    refine lv_aload_n hx hb dL_law_983 rfl (lv_at hl 1 rfl) ?_
    refine lv_aload_n hx hb dL_law_984 rfl (lv_at hl 3 rfl) ?_
    refine lv_iload_n hx hb dL_law_985 rfl (lv_at hl 0 rfl) ?_
    refine lv_iconst (v := 1) hx hb dL_law_986 (by decide) ?_
    refine lv_iadd hx hb dL_law_987 ?_
    refine va_sld hx hb hX hbl hbA hS (hw_in (by omega) (by omega)) dL_law_988 ?_
    refine lv_aload_n hx hb dL_law_989 rfl (lv_at hl 3 rfl) ?_
    refine lv_iload_n hx hb dL_law_990 rfl (lv_at hl 0 rfl) ?_
    refine lv_iconst (v := 2) hx hb dL_law_991 (by decide) ?_
    refine lv_iadd hx hb dL_law_992 ?_
    refine va_sld hx hb hX hbl hbA hS (hw_in (by omega) (by omega)) dL_law_993 ?_
    refine hw_cR (va_runV (As := [.int (xs (y3 + 1).toNatClampNeg), .int (xs (y3 + 2).toNatClampNeg)]) (rest := []) ⟨hx, hb, hml, hown, hts⟩ (k_X12_look l D G1 mo (xs (y3 + 1).toNatClampNeg) (xs (y3 + 2).toNatClampNeg) _ rm udm kym lom wkm dkm lnm smm fim bem rkm rlm rwm clm dgm fsz gm Rm ⟨by first | decide | omega, by first | decide | omega⟩ ⟨by first | decide | omega, by first | decide | omega⟩ ⟨by first | decide | omega, by first | decide | omega⟩ ⟨by first | decide | omega, by first | decide | omega⟩ ⟨by first | decide | omega, by first | decide | omega⟩ ⟨by first | decide | omega, by first | decide | omega⟩ ⟨by first | decide | omega, by first | decide | omega⟩ ⟨by first | decide | omega, by first | decide | omega⟩ ⟨by first | decide | omega, by first | decide | omega⟩ ⟨by first | decide | omega, by first | decide | omega⟩ ⟨by first | decide | omega, by first | decide | omega⟩ ⟨by first | decide | omega, by first | decide | omega⟩ qsz) (cwV 2 hts gL_law_X12_look rfl rfl rfl (by decide +kernel) ⟨Nat.le_of_ble_eq_true rfl, Nat.le_of_ble_eq_true rfl⟩) (hw_pV (hw_rc (q := (RX12, TX12, 45)) hK vm rfl) hH hK hST hS (by decide) (hw_hG hGe1) ⟨vm, vsz⟩) rfl rfl hl.1 rfl (lv_room (Nat.le_of_ble_eq_true rfl)) dL_law_994 ⟨by show _ ≤ 600000; omega, by show _ ≤ 7302250; omega⟩) (fun v hp => ?_)
    rcases hp with ⟨rfl, q13⟩ | ⟨rfl, q14, q15⟩ | ⟨rfl, q16, q17, q18⟩ | ⟨x19, rfl, q20, q21⟩
    · refine lv_pop2_2 hx hb dL_law_997 rfl ?_
      refine lv_goto (tgt := 1186) hx hb dL_law_998 (by decide) ?_
      refine W.widen (k := k + 20) (n := n + 80) (by first | omega | (show _ ≤ _; omega)) (by first | omega | (show _ ≤ _; omega)) ?_
      exact hk9 _ _ _ ⟨G1, rx, rm, pnx, pcx, ksx, scx, udm, kym, lom, wkm, dkm, lnm, smm, fim, bem, rkm, rlm, rwm, clm, dgm, fq, la, sz9, fla, fsz, hH, hGe1, wx, wm, gx, gm, Rx, vx, ⟨by first | decide | omega, by first | decide | omega⟩, vq, hRK, Rm, vm, ⟨by first | decide | omega, by first | decide | omega⟩, ⟨by first | decide | omega, by first | decide | omega⟩, ⟨by first | decide | omega, by first | decide | omega⟩, ⟨by first | decide | omega, by first | decide | omega⟩, ⟨by first | decide | omega, by first | decide | omega⟩, ⟨by first | decide | omega, by first | decide | omega⟩, ⟨by first | decide | omega, by first | decide | omega⟩, ⟨by first | decide | omega, by first | decide | omega⟩, ⟨by first | decide | omega, by first | decide | omega⟩, ⟨by first | decide | omega, by first | decide | omega⟩, ⟨by first | decide | omega, by first | decide | omega⟩, ⟨by first | decide | omega, by first | decide | omega⟩, vla, vsz, qsz, hrel⟩ hS hl
    · refine lv_pop2_2 hx hb dL_law_997 rfl ?_
      refine lv_goto (tgt := 1186) hx hb dL_law_998 (by decide) ?_
      refine W.widen (k := k + 20) (n := n + 80) (by first | omega | (show _ ≤ _; omega)) (by first | omega | (show _ ≤ _; omega)) ?_
      exact hk9 _ _ _ ⟨G1, rx, rm, pnx, pcx, ksx, scx, udm, kym, lom, wkm, dkm, lnm, smm, fim, bem, rkm, rlm, rwm, clm, dgm, fq, la, sz9, fla, fsz, hH, hGe1, wx, wm, gx, gm, Rx, vx, ⟨by first | decide | omega, by first | decide | omega⟩, vq, hRK, Rm, vm, ⟨by first | decide | omega, by first | decide | omega⟩, ⟨by first | decide | omega, by first | decide | omega⟩, ⟨by first | decide | omega, by first | decide | omega⟩, ⟨by first | decide | omega, by first | decide | omega⟩, ⟨by first | decide | omega, by first | decide | omega⟩, ⟨by first | decide | omega, by first | decide | omega⟩, ⟨by first | decide | omega, by first | decide | omega⟩, ⟨by first | decide | omega, by first | decide | omega⟩, ⟨by first | decide | omega, by first | decide | omega⟩, ⟨by first | decide | omega, by first | decide | omega⟩, ⟨by first | decide | omega, by first | decide | omega⟩, ⟨by first | decide | omega, by first | decide | omega⟩, vla, vsz, qsz, hrel⟩ hS hl
    · refine lv_pop2_2 hx hb dL_law_997 rfl ?_
      refine lv_goto (tgt := 1186) hx hb dL_law_998 (by decide) ?_
      refine W.widen (k := k + 20) (n := n + 80) (by first | omega | (show _ ≤ _; omega)) (by first | omega | (show _ ≤ _; omega)) ?_
      exact hk9 _ _ _ ⟨G1, rx, rm, pnx, pcx, ksx, scx, udm, kym, lom, wkm, dkm, lnm, smm, fim, bem, rkm, rlm, rwm, clm, dgm, fq, la, sz9, fla, fsz, hH, hGe1, wx, wm, gx, gm, Rx, vx, ⟨by first | decide | omega, by first | decide | omega⟩, vq, hRK, Rm, vm, ⟨by first | decide | omega, by first | decide | omega⟩, ⟨by first | decide | omega, by first | decide | omega⟩, ⟨by first | decide | omega, by first | decide | omega⟩, ⟨by first | decide | omega, by first | decide | omega⟩, ⟨by first | decide | omega, by first | decide | omega⟩, ⟨by first | decide | omega, by first | decide | omega⟩, ⟨by first | decide | omega, by first | decide | omega⟩, ⟨by first | decide | omega, by first | decide | omega⟩, ⟨by first | decide | omega, by first | decide | omega⟩, ⟨by first | decide | omega, by first | decide | omega⟩, ⟨by first | decide | omega, by first | decide | omega⟩, ⟨by first | decide | omega, by first | decide | omega⟩, vla, vsz, qsz, hrel⟩ hS hl
    · refine lv_pop2_2 hx hb dL_law_997 rfl ?_
      refine lv_goto (tgt := 1186) hx hb dL_law_998 (by decide) ?_
      refine W.widen (k := k + 20) (n := n + 80) (by first | omega | (show _ ≤ _; omega)) (by first | omega | (show _ ≤ _; omega)) ?_
      exact hk9 _ _ _ ⟨G1, rx, rm, pnx, pcx, ksx, scx, udm, kym, lom, wkm, dkm, lnm, smm, fim, bem, rkm, rlm, rwm, clm, dgm, fq, la, sz9, fla, fsz, hH, hGe1, wx, wm, gx, gm, Rx, vx, ⟨by first | decide | omega, by first | decide | omega⟩, vq, hRK, Rm, vm, ⟨by first | decide | omega, by first | decide | omega⟩, ⟨by first | decide | omega, by first | decide | omega⟩, ⟨by first | decide | omega, by first | decide | omega⟩, ⟨by first | decide | omega, by first | decide | omega⟩, ⟨by first | decide | omega, by first | decide | omega⟩, ⟨by first | decide | omega, by first | decide | omega⟩, ⟨by first | decide | omega, by first | decide | omega⟩, ⟨by first | decide | omega, by first | decide | omega⟩, ⟨by first | decide | omega, by first | decide | omega⟩, ⟨by first | decide | omega, by first | decide | omega⟩, ⟨by first | decide | omega, by first | decide | omega⟩, ⟨by first | decide | omega, by first | decide | omega⟩, vla, vsz, qsz, hrel⟩ hS hl
  · have hr22 : 0 ≤ (xs (y3 + 1).toNatClampNeg).toInt ∧ (xs (y3 + 1).toNatClampNeg).toInt ≤ 3 → ((la (xs (y3 + 1).toNatClampNeg).toNatClampNeg).toInt = -1 ↔ (fsz (xs (y3 + 1).toNatClampNeg).toNatClampNeg).toInt < 0) ∧ ((la (xs (y3 + 1).toNatClampNeg).toNatClampNeg).toInt ≠ -1 → (fla (xs (y3 + 1).toNatClampNeg).toNatClampNeg).toInt = (la (xs (y3 + 1).toNatClampNeg).toNatClampNeg).toInt ∧ (fsz (xs (y3 + 1).toNatClampNeg).toNatClampNeg).toInt = (sz9 (xs (y3 + 1).toNatClampNeg).toNatClampNeg).toInt) := fun h9 => hrel _ (hw_i4 h9)
    refine lv_pop2_2 hx hb dL_law_982 rfl ?_
    refine lv_aload_n hx hb dL_law_983 rfl (lv_at hl 1 rfl) ?_
    refine lv_aload_n hx hb dL_law_984 rfl (lv_at hl 3 rfl) ?_
    refine lv_iload_n hx hb dL_law_985 rfl (lv_at hl 0 rfl) ?_
    refine lv_iconst (v := 1) hx hb dL_law_986 (by decide) ?_
    refine lv_iadd hx hb dL_law_987 ?_
    refine va_sld hx hb hX hbl hbA hS (hw_in (by omega) (by omega)) dL_law_988 ?_
    refine lv_aload_n hx hb dL_law_989 rfl (lv_at hl 3 rfl) ?_
    refine lv_iload_n hx hb dL_law_990 rfl (lv_at hl 0 rfl) ?_
    refine lv_iconst (v := 2) hx hb dL_law_991 (by decide) ?_
    refine lv_iadd hx hb dL_law_992 ?_
    refine va_sld hx hb hX hbl hbA hS (hw_in (by omega) (by omega)) dL_law_993 ?_
    refine hw_cR (va_runV (As := [.int (xs (y3 + 1).toNatClampNeg), .int (xs (y3 + 2).toNatClampNeg)]) (rest := []) ⟨hx, hb, hml, hown, hts⟩ (k_X12_look l D G1 mo (xs (y3 + 1).toNatClampNeg) (xs (y3 + 2).toNatClampNeg) _ rm udm kym lom wkm dkm lnm smm fim bem rkm rlm rwm clm dgm fsz gm Rm ⟨by first | decide | omega, by first | decide | omega⟩ ⟨by first | decide | omega, by first | decide | omega⟩ ⟨by first | decide | omega, by first | decide | omega⟩ ⟨by first | decide | omega, by first | decide | omega⟩ ⟨by first | decide | omega, by first | decide | omega⟩ ⟨by first | decide | omega, by first | decide | omega⟩ ⟨by first | decide | omega, by first | decide | omega⟩ ⟨by first | decide | omega, by first | decide | omega⟩ ⟨by first | decide | omega, by first | decide | omega⟩ ⟨by first | decide | omega, by first | decide | omega⟩ ⟨by first | decide | omega, by first | decide | omega⟩ ⟨by first | decide | omega, by first | decide | omega⟩ qsz) (cwV 2 hts gL_law_X12_look rfl rfl rfl (by decide +kernel) ⟨Nat.le_of_ble_eq_true rfl, Nat.le_of_ble_eq_true rfl⟩) (hw_pV (hw_rc (q := (RX12, TX12, 45)) hK vm rfl) hH hK hST hS (by decide) (hw_hG hGe1) ⟨vm, vsz⟩) rfl rfl hl.1 rfl (lv_room (Nat.le_of_ble_eq_true rfl)) dL_law_994 ⟨by show _ ≤ 600000; omega, by show _ ≤ 7302250; omega⟩) (fun v hp => ?_)
    rcases hp with ⟨rfl, q23⟩ | ⟨rfl, q24, q25⟩ | ⟨rfl, q26, q27, q28⟩ | ⟨x29, rfl, q30, q31⟩
    · refine lv_pop2_2 hx hb dL_law_997 rfl ?_
      refine lv_goto (tgt := 1186) hx hb dL_law_998 (by decide) ?_
      refine W.widen (k := k + 20) (n := n + 80) (by first | omega | (show _ ≤ _; omega)) (by first | omega | (show _ ≤ _; omega)) ?_
      exact hk9 _ _ _ ⟨G1, rx, rm, pnx, pcx, ksx, scx, udm, kym, lom, wkm, dkm, lnm, smm, fim, bem, rkm, rlm, rwm, clm, dgm, fq, la, sz9, fla, fsz, hH, hGe1, wx, wm, gx, gm, Rx, vx, ⟨by first | decide | omega, by first | decide | omega⟩, vq, hRK, Rm, vm, ⟨by first | decide | omega, by first | decide | omega⟩, ⟨by first | decide | omega, by first | decide | omega⟩, ⟨by first | decide | omega, by first | decide | omega⟩, ⟨by first | decide | omega, by first | decide | omega⟩, ⟨by first | decide | omega, by first | decide | omega⟩, ⟨by first | decide | omega, by first | decide | omega⟩, ⟨by first | decide | omega, by first | decide | omega⟩, ⟨by first | decide | omega, by first | decide | omega⟩, ⟨by first | decide | omega, by first | decide | omega⟩, ⟨by first | decide | omega, by first | decide | omega⟩, ⟨by first | decide | omega, by first | decide | omega⟩, ⟨by first | decide | omega, by first | decide | omega⟩, vla, vsz, qsz, hrel⟩ hS hl
    · refine lv_pop2_2 hx hb dL_law_997 rfl ?_
      refine lv_goto (tgt := 1186) hx hb dL_law_998 (by decide) ?_
      refine W.widen (k := k + 20) (n := n + 80) (by first | omega | (show _ ≤ _; omega)) (by first | omega | (show _ ≤ _; omega)) ?_
      exact hk9 _ _ _ ⟨G1, rx, rm, pnx, pcx, ksx, scx, udm, kym, lom, wkm, dkm, lnm, smm, fim, bem, rkm, rlm, rwm, clm, dgm, fq, la, sz9, fla, fsz, hH, hGe1, wx, wm, gx, gm, Rx, vx, ⟨by first | decide | omega, by first | decide | omega⟩, vq, hRK, Rm, vm, ⟨by first | decide | omega, by first | decide | omega⟩, ⟨by first | decide | omega, by first | decide | omega⟩, ⟨by first | decide | omega, by first | decide | omega⟩, ⟨by first | decide | omega, by first | decide | omega⟩, ⟨by first | decide | omega, by first | decide | omega⟩, ⟨by first | decide | omega, by first | decide | omega⟩, ⟨by first | decide | omega, by first | decide | omega⟩, ⟨by first | decide | omega, by first | decide | omega⟩, ⟨by first | decide | omega, by first | decide | omega⟩, ⟨by first | decide | omega, by first | decide | omega⟩, ⟨by first | decide | omega, by first | decide | omega⟩, ⟨by first | decide | omega, by first | decide | omega⟩, vla, vsz, qsz, hrel⟩ hS hl
    · refine lv_pop2_2 hx hb dL_law_997 rfl ?_
      refine lv_goto (tgt := 1186) hx hb dL_law_998 (by decide) ?_
      refine W.widen (k := k + 20) (n := n + 80) (by first | omega | (show _ ≤ _; omega)) (by first | omega | (show _ ≤ _; omega)) ?_
      exact hk9 _ _ _ ⟨G1, rx, rm, pnx, pcx, ksx, scx, udm, kym, lom, wkm, dkm, lnm, smm, fim, bem, rkm, rlm, rwm, clm, dgm, fq, la, sz9, fla, fsz, hH, hGe1, wx, wm, gx, gm, Rx, vx, ⟨by first | decide | omega, by first | decide | omega⟩, vq, hRK, Rm, vm, ⟨by first | decide | omega, by first | decide | omega⟩, ⟨by first | decide | omega, by first | decide | omega⟩, ⟨by first | decide | omega, by first | decide | omega⟩, ⟨by first | decide | omega, by first | decide | omega⟩, ⟨by first | decide | omega, by first | decide | omega⟩, ⟨by first | decide | omega, by first | decide | omega⟩, ⟨by first | decide | omega, by first | decide | omega⟩, ⟨by first | decide | omega, by first | decide | omega⟩, ⟨by first | decide | omega, by first | decide | omega⟩, ⟨by first | decide | omega, by first | decide | omega⟩, ⟨by first | decide | omega, by first | decide | omega⟩, ⟨by first | decide | omega, by first | decide | omega⟩, vla, vsz, qsz, hrel⟩ hS hl
    · refine lv_pop2_2 hx hb dL_law_997 rfl ?_
      refine lv_goto (tgt := 1186) hx hb dL_law_998 (by decide) ?_
      refine W.widen (k := k + 20) (n := n + 80) (by first | omega | (show _ ≤ _; omega)) (by first | omega | (show _ ≤ _; omega)) ?_
      exact hk9 _ _ _ ⟨G1, rx, rm, pnx, pcx, ksx, scx, udm, kym, lom, wkm, dkm, lnm, smm, fim, bem, rkm, rlm, rwm, clm, dgm, fq, la, sz9, fla, fsz, hH, hGe1, wx, wm, gx, gm, Rx, vx, ⟨by first | decide | omega, by first | decide | omega⟩, vq, hRK, Rm, vm, ⟨by first | decide | omega, by first | decide | omega⟩, ⟨by first | decide | omega, by first | decide | omega⟩, ⟨by first | decide | omega, by first | decide | omega⟩, ⟨by first | decide | omega, by first | decide | omega⟩, ⟨by first | decide | omega, by first | decide | omega⟩, ⟨by first | decide | omega, by first | decide | omega⟩, ⟨by first | decide | omega, by first | decide | omega⟩, ⟨by first | decide | omega, by first | decide | omega⟩, ⟨by first | decide | omega, by first | decide | omega⟩, ⟨by first | decide | omega, by first | decide | omega⟩, ⟨by first | decide | omega, by first | decide | omega⟩, ⟨by first | decide | omega, by first | decide | omega⟩, vla, vsz, qsz, hrel⟩ hS hl
  · have hr32 : 0 ≤ (xs (y3 + 1).toNatClampNeg).toInt ∧ (xs (y3 + 1).toNatClampNeg).toInt ≤ 3 → ((la (xs (y3 + 1).toNatClampNeg).toNatClampNeg).toInt = -1 ↔ (fsz (xs (y3 + 1).toNatClampNeg).toNatClampNeg).toInt < 0) ∧ ((la (xs (y3 + 1).toNatClampNeg).toNatClampNeg).toInt ≠ -1 → (fla (xs (y3 + 1).toNatClampNeg).toNatClampNeg).toInt = (la (xs (y3 + 1).toNatClampNeg).toNatClampNeg).toInt ∧ (fsz (xs (y3 + 1).toNatClampNeg).toNatClampNeg).toInt = (sz9 (xs (y3 + 1).toNatClampNeg).toNatClampNeg).toInt) := fun h9 => hrel _ (hw_i4 h9)
    refine lv_pop2_2 hx hb dL_law_982 rfl ?_
    refine lv_aload_n hx hb dL_law_983 rfl (lv_at hl 1 rfl) ?_
    refine lv_aload_n hx hb dL_law_984 rfl (lv_at hl 3 rfl) ?_
    refine lv_iload_n hx hb dL_law_985 rfl (lv_at hl 0 rfl) ?_
    refine lv_iconst (v := 1) hx hb dL_law_986 (by decide) ?_
    refine lv_iadd hx hb dL_law_987 ?_
    refine va_sld hx hb hX hbl hbA hS (hw_in (by omega) (by omega)) dL_law_988 ?_
    refine lv_aload_n hx hb dL_law_989 rfl (lv_at hl 3 rfl) ?_
    refine lv_iload_n hx hb dL_law_990 rfl (lv_at hl 0 rfl) ?_
    refine lv_iconst (v := 2) hx hb dL_law_991 (by decide) ?_
    refine lv_iadd hx hb dL_law_992 ?_
    refine va_sld hx hb hX hbl hbA hS (hw_in (by omega) (by omega)) dL_law_993 ?_
    refine hw_cR (va_runV (As := [.int (xs (y3 + 1).toNatClampNeg), .int (xs (y3 + 2).toNatClampNeg)]) (rest := []) ⟨hx, hb, hml, hown, hts⟩ (k_X12_look l D G1 mo (xs (y3 + 1).toNatClampNeg) (xs (y3 + 2).toNatClampNeg) _ rm udm kym lom wkm dkm lnm smm fim bem rkm rlm rwm clm dgm fsz gm Rm ⟨by first | decide | omega, by first | decide | omega⟩ ⟨by first | decide | omega, by first | decide | omega⟩ ⟨by first | decide | omega, by first | decide | omega⟩ ⟨by first | decide | omega, by first | decide | omega⟩ ⟨by first | decide | omega, by first | decide | omega⟩ ⟨by first | decide | omega, by first | decide | omega⟩ ⟨by first | decide | omega, by first | decide | omega⟩ ⟨by first | decide | omega, by first | decide | omega⟩ ⟨by first | decide | omega, by first | decide | omega⟩ ⟨by first | decide | omega, by first | decide | omega⟩ ⟨by first | decide | omega, by first | decide | omega⟩ ⟨by first | decide | omega, by first | decide | omega⟩ qsz) (cwV 2 hts gL_law_X12_look rfl rfl rfl (by decide +kernel) ⟨Nat.le_of_ble_eq_true rfl, Nat.le_of_ble_eq_true rfl⟩) (hw_pV (hw_rc (q := (RX12, TX12, 45)) hK vm rfl) hH hK hST hS (by decide) (hw_hG hGe1) ⟨vm, vsz⟩) rfl rfl hl.1 rfl (lv_room (Nat.le_of_ble_eq_true rfl)) dL_law_994 ⟨by show _ ≤ 600000; omega, by show _ ≤ 7302250; omega⟩) (fun v hp => ?_)
    rcases hp with ⟨rfl, q33⟩ | ⟨rfl, q34, q35⟩ | ⟨rfl, q36, q37, q38⟩ | ⟨x39, rfl, q40, q41⟩
    · refine lv_pop2_2 hx hb dL_law_997 rfl ?_
      refine lv_goto (tgt := 1186) hx hb dL_law_998 (by decide) ?_
      refine W.widen (k := k + 20) (n := n + 80) (by first | omega | (show _ ≤ _; omega)) (by first | omega | (show _ ≤ _; omega)) ?_
      exact hk9 _ _ _ ⟨G1, rx, rm, pnx, pcx, ksx, scx, udm, kym, lom, wkm, dkm, lnm, smm, fim, bem, rkm, rlm, rwm, clm, dgm, fq, la, sz9, fla, fsz, hH, hGe1, wx, wm, gx, gm, Rx, vx, ⟨by first | decide | omega, by first | decide | omega⟩, vq, hRK, Rm, vm, ⟨by first | decide | omega, by first | decide | omega⟩, ⟨by first | decide | omega, by first | decide | omega⟩, ⟨by first | decide | omega, by first | decide | omega⟩, ⟨by first | decide | omega, by first | decide | omega⟩, ⟨by first | decide | omega, by first | decide | omega⟩, ⟨by first | decide | omega, by first | decide | omega⟩, ⟨by first | decide | omega, by first | decide | omega⟩, ⟨by first | decide | omega, by first | decide | omega⟩, ⟨by first | decide | omega, by first | decide | omega⟩, ⟨by first | decide | omega, by first | decide | omega⟩, ⟨by first | decide | omega, by first | decide | omega⟩, ⟨by first | decide | omega, by first | decide | omega⟩, vla, vsz, qsz, hrel⟩ hS hl
    · refine lv_pop2_2 hx hb dL_law_997 rfl ?_
      refine lv_goto (tgt := 1186) hx hb dL_law_998 (by decide) ?_
      refine W.widen (k := k + 20) (n := n + 80) (by first | omega | (show _ ≤ _; omega)) (by first | omega | (show _ ≤ _; omega)) ?_
      exact hk9 _ _ _ ⟨G1, rx, rm, pnx, pcx, ksx, scx, udm, kym, lom, wkm, dkm, lnm, smm, fim, bem, rkm, rlm, rwm, clm, dgm, fq, la, sz9, fla, fsz, hH, hGe1, wx, wm, gx, gm, Rx, vx, ⟨by first | decide | omega, by first | decide | omega⟩, vq, hRK, Rm, vm, ⟨by first | decide | omega, by first | decide | omega⟩, ⟨by first | decide | omega, by first | decide | omega⟩, ⟨by first | decide | omega, by first | decide | omega⟩, ⟨by first | decide | omega, by first | decide | omega⟩, ⟨by first | decide | omega, by first | decide | omega⟩, ⟨by first | decide | omega, by first | decide | omega⟩, ⟨by first | decide | omega, by first | decide | omega⟩, ⟨by first | decide | omega, by first | decide | omega⟩, ⟨by first | decide | omega, by first | decide | omega⟩, ⟨by first | decide | omega, by first | decide | omega⟩, ⟨by first | decide | omega, by first | decide | omega⟩, ⟨by first | decide | omega, by first | decide | omega⟩, vla, vsz, qsz, hrel⟩ hS hl
    · refine lv_pop2_2 hx hb dL_law_997 rfl ?_
      refine lv_goto (tgt := 1186) hx hb dL_law_998 (by decide) ?_
      refine W.widen (k := k + 20) (n := n + 80) (by first | omega | (show _ ≤ _; omega)) (by first | omega | (show _ ≤ _; omega)) ?_
      exact hk9 _ _ _ ⟨G1, rx, rm, pnx, pcx, ksx, scx, udm, kym, lom, wkm, dkm, lnm, smm, fim, bem, rkm, rlm, rwm, clm, dgm, fq, la, sz9, fla, fsz, hH, hGe1, wx, wm, gx, gm, Rx, vx, ⟨by first | decide | omega, by first | decide | omega⟩, vq, hRK, Rm, vm, ⟨by first | decide | omega, by first | decide | omega⟩, ⟨by first | decide | omega, by first | decide | omega⟩, ⟨by first | decide | omega, by first | decide | omega⟩, ⟨by first | decide | omega, by first | decide | omega⟩, ⟨by first | decide | omega, by first | decide | omega⟩, ⟨by first | decide | omega, by first | decide | omega⟩, ⟨by first | decide | omega, by first | decide | omega⟩, ⟨by first | decide | omega, by first | decide | omega⟩, ⟨by first | decide | omega, by first | decide | omega⟩, ⟨by first | decide | omega, by first | decide | omega⟩, ⟨by first | decide | omega, by first | decide | omega⟩, ⟨by first | decide | omega, by first | decide | omega⟩, vla, vsz, qsz, hrel⟩ hS hl
    · refine lv_pop2_2 hx hb dL_law_997 rfl ?_
      refine lv_goto (tgt := 1186) hx hb dL_law_998 (by decide) ?_
      refine W.widen (k := k + 20) (n := n + 80) (by first | omega | (show _ ≤ _; omega)) (by first | omega | (show _ ≤ _; omega)) ?_
      exact hk9 _ _ _ ⟨G1, rx, rm, pnx, pcx, ksx, scx, udm, kym, lom, wkm, dkm, lnm, smm, fim, bem, rkm, rlm, rwm, clm, dgm, fq, la, sz9, fla, fsz, hH, hGe1, wx, wm, gx, gm, Rx, vx, ⟨by first | decide | omega, by first | decide | omega⟩, vq, hRK, Rm, vm, ⟨by first | decide | omega, by first | decide | omega⟩, ⟨by first | decide | omega, by first | decide | omega⟩, ⟨by first | decide | omega, by first | decide | omega⟩, ⟨by first | decide | omega, by first | decide | omega⟩, ⟨by first | decide | omega, by first | decide | omega⟩, ⟨by first | decide | omega, by first | decide | omega⟩, ⟨by first | decide | omega, by first | decide | omega⟩, ⟨by first | decide | omega, by first | decide | omega⟩, ⟨by first | decide | omega, by first | decide | omega⟩, ⟨by first | decide | omega, by first | decide | omega⟩, ⟨by first | decide | omega, by first | decide | omega⟩, ⟨by first | decide | omega, by first | decide | omega⟩, vla, vsz, qsz, hrel⟩ hS hl
  · have hr42 : 0 ≤ (xs (y3 + 1).toNatClampNeg).toInt ∧ (xs (y3 + 1).toNatClampNeg).toInt ≤ 3 → ((la (xs (y3 + 1).toNatClampNeg).toNatClampNeg).toInt = -1 ↔ (fsz (xs (y3 + 1).toNatClampNeg).toNatClampNeg).toInt < 0) ∧ ((la (xs (y3 + 1).toNatClampNeg).toNatClampNeg).toInt ≠ -1 → (fla (xs (y3 + 1).toNatClampNeg).toNatClampNeg).toInt = (la (xs (y3 + 1).toNatClampNeg).toNatClampNeg).toInt ∧ (fsz (xs (y3 + 1).toNatClampNeg).toNatClampNeg).toInt = (sz9 (xs (y3 + 1).toNatClampNeg).toNatClampNeg).toInt) := fun h9 => hrel _ (hw_i4 h9)
    refine lv_pop2_2 hx hb dL_law_982 rfl ?_
    refine lv_aload_n hx hb dL_law_983 rfl (lv_at hl 1 rfl) ?_
    refine lv_aload_n hx hb dL_law_984 rfl (lv_at hl 3 rfl) ?_
    refine lv_iload_n hx hb dL_law_985 rfl (lv_at hl 0 rfl) ?_
    refine lv_iconst (v := 1) hx hb dL_law_986 (by decide) ?_
    refine lv_iadd hx hb dL_law_987 ?_
    refine va_sld hx hb hX hbl hbA hS (hw_in (by omega) (by omega)) dL_law_988 ?_
    refine lv_aload_n hx hb dL_law_989 rfl (lv_at hl 3 rfl) ?_
    refine lv_iload_n hx hb dL_law_990 rfl (lv_at hl 0 rfl) ?_
    refine lv_iconst (v := 2) hx hb dL_law_991 (by decide) ?_
    refine lv_iadd hx hb dL_law_992 ?_
    refine va_sld hx hb hX hbl hbA hS (hw_in (by omega) (by omega)) dL_law_993 ?_
    refine hw_cR (va_runV (As := [.int (xs (y3 + 1).toNatClampNeg), .int (xs (y3 + 2).toNatClampNeg)]) (rest := []) ⟨hx, hb, hml, hown, hts⟩ (k_X12_look l D G1 mo (xs (y3 + 1).toNatClampNeg) (xs (y3 + 2).toNatClampNeg) _ rm udm kym lom wkm dkm lnm smm fim bem rkm rlm rwm clm dgm fsz gm Rm ⟨by first | decide | omega, by first | decide | omega⟩ ⟨by first | decide | omega, by first | decide | omega⟩ ⟨by first | decide | omega, by first | decide | omega⟩ ⟨by first | decide | omega, by first | decide | omega⟩ ⟨by first | decide | omega, by first | decide | omega⟩ ⟨by first | decide | omega, by first | decide | omega⟩ ⟨by first | decide | omega, by first | decide | omega⟩ ⟨by first | decide | omega, by first | decide | omega⟩ ⟨by first | decide | omega, by first | decide | omega⟩ ⟨by first | decide | omega, by first | decide | omega⟩ ⟨by first | decide | omega, by first | decide | omega⟩ ⟨by first | decide | omega, by first | decide | omega⟩ qsz) (cwV 2 hts gL_law_X12_look rfl rfl rfl (by decide +kernel) ⟨Nat.le_of_ble_eq_true rfl, Nat.le_of_ble_eq_true rfl⟩) (hw_pV (hw_rc (q := (RX12, TX12, 45)) hK vm rfl) hH hK hST hS (by decide) (hw_hG hGe1) ⟨vm, vsz⟩) rfl rfl hl.1 rfl (lv_room (Nat.le_of_ble_eq_true rfl)) dL_law_994 ⟨by show _ ≤ 600000; omega, by show _ ≤ 7302250; omega⟩) (fun v hp => ?_)
    rcases hp with ⟨rfl, q43⟩ | ⟨rfl, q44, q45⟩ | ⟨rfl, q46, q47, q48⟩ | ⟨x49, rfl, q50, q51⟩
    · refine lv_pop2_2 hx hb dL_law_997 rfl ?_
      refine lv_goto (tgt := 1186) hx hb dL_law_998 (by decide) ?_
      refine W.widen (k := k + 20) (n := n + 80) (by first | omega | (show _ ≤ _; omega)) (by first | omega | (show _ ≤ _; omega)) ?_
      exact hk9 _ _ _ ⟨G1, rx, rm, pnx, pcx, ksx, scx, udm, kym, lom, wkm, dkm, lnm, smm, fim, bem, rkm, rlm, rwm, clm, dgm, fq, la, sz9, fla, fsz, hH, hGe1, wx, wm, gx, gm, Rx, vx, ⟨by first | decide | omega, by first | decide | omega⟩, vq, hRK, Rm, vm, ⟨by first | decide | omega, by first | decide | omega⟩, ⟨by first | decide | omega, by first | decide | omega⟩, ⟨by first | decide | omega, by first | decide | omega⟩, ⟨by first | decide | omega, by first | decide | omega⟩, ⟨by first | decide | omega, by first | decide | omega⟩, ⟨by first | decide | omega, by first | decide | omega⟩, ⟨by first | decide | omega, by first | decide | omega⟩, ⟨by first | decide | omega, by first | decide | omega⟩, ⟨by first | decide | omega, by first | decide | omega⟩, ⟨by first | decide | omega, by first | decide | omega⟩, ⟨by first | decide | omega, by first | decide | omega⟩, ⟨by first | decide | omega, by first | decide | omega⟩, vla, vsz, qsz, hrel⟩ hS hl
    · refine lv_pop2_2 hx hb dL_law_997 rfl ?_
      refine lv_goto (tgt := 1186) hx hb dL_law_998 (by decide) ?_
      refine W.widen (k := k + 20) (n := n + 80) (by first | omega | (show _ ≤ _; omega)) (by first | omega | (show _ ≤ _; omega)) ?_
      exact hk9 _ _ _ ⟨G1, rx, rm, pnx, pcx, ksx, scx, udm, kym, lom, wkm, dkm, lnm, smm, fim, bem, rkm, rlm, rwm, clm, dgm, fq, la, sz9, fla, fsz, hH, hGe1, wx, wm, gx, gm, Rx, vx, ⟨by first | decide | omega, by first | decide | omega⟩, vq, hRK, Rm, vm, ⟨by first | decide | omega, by first | decide | omega⟩, ⟨by first | decide | omega, by first | decide | omega⟩, ⟨by first | decide | omega, by first | decide | omega⟩, ⟨by first | decide | omega, by first | decide | omega⟩, ⟨by first | decide | omega, by first | decide | omega⟩, ⟨by first | decide | omega, by first | decide | omega⟩, ⟨by first | decide | omega, by first | decide | omega⟩, ⟨by first | decide | omega, by first | decide | omega⟩, ⟨by first | decide | omega, by first | decide | omega⟩, ⟨by first | decide | omega, by first | decide | omega⟩, ⟨by first | decide | omega, by first | decide | omega⟩, ⟨by first | decide | omega, by first | decide | omega⟩, vla, vsz, qsz, hrel⟩ hS hl
    · refine lv_pop2_2 hx hb dL_law_997 rfl ?_
      refine lv_goto (tgt := 1186) hx hb dL_law_998 (by decide) ?_
      refine W.widen (k := k + 20) (n := n + 80) (by first | omega | (show _ ≤ _; omega)) (by first | omega | (show _ ≤ _; omega)) ?_
      exact hk9 _ _ _ ⟨G1, rx, rm, pnx, pcx, ksx, scx, udm, kym, lom, wkm, dkm, lnm, smm, fim, bem, rkm, rlm, rwm, clm, dgm, fq, la, sz9, fla, fsz, hH, hGe1, wx, wm, gx, gm, Rx, vx, ⟨by first | decide | omega, by first | decide | omega⟩, vq, hRK, Rm, vm, ⟨by first | decide | omega, by first | decide | omega⟩, ⟨by first | decide | omega, by first | decide | omega⟩, ⟨by first | decide | omega, by first | decide | omega⟩, ⟨by first | decide | omega, by first | decide | omega⟩, ⟨by first | decide | omega, by first | decide | omega⟩, ⟨by first | decide | omega, by first | decide | omega⟩, ⟨by first | decide | omega, by first | decide | omega⟩, ⟨by first | decide | omega, by first | decide | omega⟩, ⟨by first | decide | omega, by first | decide | omega⟩, ⟨by first | decide | omega, by first | decide | omega⟩, ⟨by first | decide | omega, by first | decide | omega⟩, ⟨by first | decide | omega, by first | decide | omega⟩, vla, vsz, qsz, hrel⟩ hS hl
    · refine lv_pop2_2 hx hb dL_law_997 rfl ?_
      refine lv_goto (tgt := 1186) hx hb dL_law_998 (by decide) ?_
      refine W.widen (k := k + 20) (n := n + 80) (by first | omega | (show _ ≤ _; omega)) (by first | omega | (show _ ≤ _; omega)) ?_
      exact hk9 _ _ _ ⟨G1, rx, rm, pnx, pcx, ksx, scx, udm, kym, lom, wkm, dkm, lnm, smm, fim, bem, rkm, rlm, rwm, clm, dgm, fq, la, sz9, fla, fsz, hH, hGe1, wx, wm, gx, gm, Rx, vx, ⟨by first | decide | omega, by first | decide | omega⟩, vq, hRK, Rm, vm, ⟨by first | decide | omega, by first | decide | omega⟩, ⟨by first | decide | omega, by first | decide | omega⟩, ⟨by first | decide | omega, by first | decide | omega⟩, ⟨by first | decide | omega, by first | decide | omega⟩, ⟨by first | decide | omega, by first | decide | omega⟩, ⟨by first | decide | omega, by first | decide | omega⟩, ⟨by first | decide | omega, by first | decide | omega⟩, ⟨by first | decide | omega, by first | decide | omega⟩, ⟨by first | decide | omega, by first | decide | omega⟩, ⟨by first | decide | omega, by first | decide | omega⟩, ⟨by first | decide | omega, by first | decide | omega⟩, ⟨by first | decide | omega, by first | decide | omega⟩, vla, vsz, qsz, hrel⟩ hS hl

set_option maxHeartbeats 40000000 in
set_option maxRecDepth 100000 in
theorem hw_case1001 {p : Program} {e : Env} {s : State} {m : MethodId} {below : List Frame} {meth : Method} {c : Code} (l : Launch) {b L : Nat} {xs : Nat → Int32} {D : hw_D} {G : Nat → Nat} {H : Heap} {locs : List Loc} {x mo k n : Nat} {y3 : Int32} {ls : Array Slot} (hL : L ≤ 384) (hy0 : 0 ≤ y3.toInt ∧ y3.toInt ≤ 384) (hy : y3.toInt + 6 ≤ L) (hkc : k + 20 ≤ 600000) (hnc : n + 80 ≤ 7302250) (hx : p.tables.exec = Jvm.exec) (hb : c.code = code) (hr : meth.sig.returnType = ret) (hml : c.maxLocals = 4) (hown : s.vm.findClass R_law = some m.cls) (hts0 : ∀ w ∈ lw_tbl, w.before #[Value.ref b] s = true) (hts : ∀ w ∈ wsL_law, w.before #[Value.ref b] s = true) (hX : va_X b L xs s s.heap) (hbl : b < s.heap.size) (hlocks : meth.locks = false) (hG0 : G = fun _ => 0) (hK : va_K D.1 vwCl (hw_ty D.2.1) s) (hST : hw_ST D.2.2 G s.heap.size s) (hI : hw_I D G s H x mo) (hS : va_S (hw_AW G [1, 2, 3, 4, 5, 6, 7, 8, 9, 10, 11, 12, 13, 14, 15, 16, 17, 18, 19, 20, 21, 22, 23, 24, 25, 26, 27, 28, 29, 30, 31, 32, 40, 42, 44, 45, 46, 48, 49, 50, 51, 53, 55, 58, 59, 67, 68, 69, 70, 71, 72, 73, 74, 75, 76, 77, 78, 79, 80, 81, 82, 83, 84, 101, 102, 103, 104, 105, 106, 107, 108, 109, 127, 128, 129, 132] s.heap.size) s.heap H locs) (hl : lv_has ls 4 [(3, .int y3), (2, .ref mo), (1, .ref x), (0, .ref b)]) (hk9 : ∀ (H1 : Heap) (locs1 : List Loc) (ls1 : Array Slot), hw_I D G s H1 x mo → va_S (hw_AW G [1, 2, 3, 4, 5, 6, 7, 8, 9, 10, 11, 12, 13, 14, 15, 16, 17, 18, 19, 20, 21, 22, 23, 24, 25, 26, 27, 28, 29, 30, 31, 32, 40, 42, 44, 45, 46, 48, 49, 50, 51, 53, 55, 58, 59, 67, 68, 69, 70, 71, 72, 73, 74, 75, 76, 77, 78, 79, 80, 81, 82, 83, 84, 101, 102, 103, 104, 105, 106, 107, 108, 109, 127, 128, 129, 132] s.heap.size) s.heap H1 locs1 → lv_has ls1 4 [(3, .int y3), (2, .ref mo), (1, .ref x), (0, .ref b)] → W p l e room_1 s m #[Value.ref b] below meth c H1 locs1 (k + 20) (n + 80) (lw_Z below #[Value.ref b] s) (F0 m 1186 ls1 [])) : W p l e room_1 s m #[Value.ref b] below meth c H locs k n (lw_Z below #[Value.ref b] s) (F0 m 1001 ls []) := by
  have hH0 : hw_HT D G s.heap := fun a h => absurd (by rw [hG0]) h
  have hbA : ¬ (hw_AW G [1, 2, 3, 4, 5, 6, 7, 8, 9, 10, 11, 12, 13, 14, 15, 16, 17, 18, 19, 20, 21, 22, 23, 24, 25, 26, 27, 28, 29, 30, 31, 32, 40, 42, 44, 45, 46, 48, 49, 50, 51, 53, 55, 58, 59, 67, 68, 69, 70, 71, 72, 73, 74, 75, 76, 77, 78, 79, 80, 81, 82, 83, 84, 101, 102, 103, 104, 105, 106, 107, 108, 109, 127, 128, 129, 132] s.heap.size) b := hw_AWn (k := 0) (by rw [hG0]) (by decide) hbl
  have hLi : (Int32.ofNat L).toInt = (L : Int) := nI_toInt (by omega)
  refine hw_I_elim hI ?_
  intro G1 rx rm pnx pcx ksx scx udm kym lom wkm dkm lnm smm fim bem rkm rlm rwm clm dgm fq la sz9 fla fsz hH hGe1 wx wm gx gm Rx vx gsc vq hRK Rm vm gm0 gm1 gm2 gm3 gm4 gm5 gm6 gm7 gm8 gm9 gm10 gm11 vla vsz qsz hrel
  have hHs := hH0
  have qq := hRK.q
  refine lv_aload_n hx hb dL_law_1001 rfl (lv_at hl 2 rfl) ?_
  refine lv_aload_n hx hb dL_law_1002 rfl (lv_at hl 3 rfl) ?_
  refine lv_iload_n hx hb dL_law_1003 rfl (lv_at hl 0 rfl) ?_
  refine lv_iconst (v := 1) hx hb dL_law_1004 (by decide) ?_
  refine lv_iadd hx hb dL_law_1005 ?_
  have t1 : (y3 + 1).toInt = y3.toInt + 1 := hw_add rfl rfl (by omega) (by omega)
  refine va_sld hx hb hX hbl hbA hS (hw_in (by omega) (by omega)) dL_law_1006 ?_
  refine lv_aload_n hx hb dL_law_1007 rfl (lv_at hl 3 rfl) ?_
  refine lv_iload_n hx hb dL_law_1008 rfl (lv_at hl 0 rfl) ?_
  refine lv_iconst (v := 2) hx hb dL_law_1009 (by decide) ?_
  refine lv_iadd hx hb dL_law_1010 ?_
  have t2 : (y3 + 2).toInt = y3.toInt + 2 := hw_add rfl rfl (by omega) (by omega)
  refine va_sld hx hb hX hbl hbA hS (hw_in (by omega) (by omega)) dL_law_1011 ?_
  refine lv_aload_n hx hb dL_law_1012 rfl (lv_at hl 3 rfl) ?_
  refine lv_iload_n hx hb dL_law_1013 rfl (lv_at hl 0 rfl) ?_
  refine lv_iconst (v := 3) hx hb dL_law_1014 (by decide) ?_
  refine lv_iadd hx hb dL_law_1015 ?_
  have t3 : (y3 + 3).toInt = y3.toInt + 3 := hw_add rfl rfl (by omega) (by omega)
  refine va_sld hx hb hX hbl hbA hS (hw_in (by omega) (by omega)) dL_law_1016 ?_
  refine lv_aload_n hx hb dL_law_1017 rfl (lv_at hl 3 rfl) ?_
  refine lv_iload_n hx hb dL_law_1018 rfl (lv_at hl 0 rfl) ?_
  refine lv_iconst (v := 4) hx hb dL_law_1019 (by decide) ?_
  refine lv_iadd hx hb dL_law_1020 ?_
  have t4 : (y3 + 4).toInt = y3.toInt + 4 := hw_add rfl rfl (by omega) (by omega)
  refine va_sld hx hb hX hbl hbA hS (hw_in (by omega) (by omega)) dL_law_1021 ?_
  refine lv_aload_n hx hb dL_law_1022 rfl (lv_at hl 3 rfl) ?_
  refine lv_iload_n hx hb dL_law_1023 rfl (lv_at hl 0 rfl) ?_
  refine lv_iconst (v := 5) hx hb dL_law_1024 (by decide) ?_
  refine lv_iadd hx hb dL_law_1025 ?_
  have t5 : (y3 + 5).toInt = y3.toInt + 5 := hw_add rfl rfl (by omega) (by omega)
  refine va_sld hx hb hX hbl hbA hS (hw_in (by omega) (by omega)) dL_law_1026 ?_
  refine hw_cM0 (va_runV (As := [.int (xs (y3 + 1).toNatClampNeg), .int (xs (y3 + 2).toNatClampNeg), .int (xs (y3 + 3).toNatClampNeg), .int (xs (y3 + 4).toNatClampNeg), .int (xs (y3 + 5).toNatClampNeg)]) (rest := []) ⟨hx, hb, hml, hown, hts⟩ (k_X11_copy l D G1 x (xs (y3 + 1).toNatClampNeg) (xs (y3 + 2).toNatClampNeg) (xs (y3 + 3).toNatClampNeg) (xs (y3 + 4).toNatClampNeg) (xs (y3 + 5).toNatClampNeg) _ la sz9 rx pnx pcx ksx scx fq gx Rx ⟨by first | decide | omega, by first | decide | omega⟩ qq) (cwV 5 hts gL_law_X11_copy rfl rfl rfl (by decide +kernel) ⟨Nat.le_of_ble_eq_true rfl, Nat.le_of_ble_eq_true rfl⟩) (hw_pV (hw_rc (q := (RX11, TX11, 14)) hK vx rfl) hH hK hST hS (by decide) (hw_hG hGe1) ⟨vx, vq, hRK⟩) rfl rfl hl.1 rfl (lv_room (Nat.le_of_ble_eq_true rfl)) dL_law_1027 ⟨by show _ ≤ 600000; omega, by show _ ≤ 7302250; omega⟩) hS (hw_AWsub (by decide) hGe1 hS.1) (fun v H locs hp hz hk hS => ?_)
  rcases hp with ⟨rfl, hH, hRK, v6, v7, q8⟩ | ⟨rfl, hH, hRK, v9, v10, q11, q12, q13⟩ | ⟨rfl, hH, hRK, v14, v15, q16, q17, q18, q19, q20⟩ | ⟨rfl, hH, hRK, v21, v22, q23, q24, q25, q26, q27, q28⟩ | ⟨x29, rfl, hH, hRK, v30, v31, q32, q33, q34, q35, q36, q37, q38⟩
  · have vm := va_at.kept vm (hk _ (hw_lt vm) (hw_AWn gm (by decide) (hw_lt vm)))
    have vla := va_at.kept vla (hk _ (hw_lt vla) (hw_AWn (hw_RM_41 Rm) (by decide) (hw_lt vla)))
    have vsz := va_at.kept vsz (hk _ (hw_lt vsz) (hw_AWn (hw_RM_42 Rm) (by decide) (hw_lt vsz)))
    have hr39 : 0 ≤ (xs (y3 + 1).toNatClampNeg).toInt ∧ (xs (y3 + 1).toNatClampNeg).toInt ≤ 3 → ((la (xs (y3 + 1).toNatClampNeg).toNatClampNeg).toInt = -1 ↔ (fsz (xs (y3 + 1).toNatClampNeg).toNatClampNeg).toInt < 0) ∧ ((la (xs (y3 + 1).toNatClampNeg).toNatClampNeg).toInt ≠ -1 → (fla (xs (y3 + 1).toNatClampNeg).toNatClampNeg).toInt = (la (xs (y3 + 1).toNatClampNeg).toNatClampNeg).toInt ∧ (fsz (xs (y3 + 1).toNatClampNeg).toNatClampNeg).toInt = (sz9 (xs (y3 + 1).toNatClampNeg).toNatClampNeg).toInt) := fun h9 => hrel _ (hw_i4 h9)
    have hr40 : 0 ≤ (xs (y3 + 3).toNatClampNeg).toInt ∧ (xs (y3 + 3).toNatClampNeg).toInt ≤ 3 → ((la (xs (y3 + 3).toNatClampNeg).toNatClampNeg).toInt = -1 ↔ (fsz (xs (y3 + 3).toNatClampNeg).toNatClampNeg).toInt < 0) ∧ ((la (xs (y3 + 3).toNatClampNeg).toNatClampNeg).toInt ≠ -1 → (fla (xs (y3 + 3).toNatClampNeg).toNatClampNeg).toInt = (la (xs (y3 + 3).toNatClampNeg).toNatClampNeg).toInt ∧ (fsz (xs (y3 + 3).toNatClampNeg).toNatClampNeg).toInt = (sz9 (xs (y3 + 3).toNatClampNeg).toNatClampNeg).toInt) := fun h9 => hrel _ (hw_i4 h9)
    refine lv_pop hx hb dL_law_1030 rfl ?_
    refine lv_aload_n hx hb dL_law_1031 rfl (lv_at hl 1 rfl) ?_
    refine lv_aload_n hx hb dL_law_1032 rfl (lv_at hl 3 rfl) ?_
    refine lv_iload_n hx hb dL_law_1033 rfl (lv_at hl 0 rfl) ?_
    refine lv_iconst (v := 1) hx hb dL_law_1034 (by decide) ?_
    refine lv_iadd hx hb dL_law_1035 ?_
    refine va_sld hx hb hX hbl hbA hS (hw_in (by omega) (by omega)) dL_law_1036 ?_
    refine lv_aload_n hx hb dL_law_1037 rfl (lv_at hl 3 rfl) ?_
    refine lv_iload_n hx hb dL_law_1038 rfl (lv_at hl 0 rfl) ?_
    refine lv_iconst (v := 2) hx hb dL_law_1039 (by decide) ?_
    refine lv_iadd hx hb dL_law_1040 ?_
    refine va_sld hx hb hX hbl hbA hS (hw_in (by omega) (by omega)) dL_law_1041 ?_
    refine lv_aload_n hx hb dL_law_1042 rfl (lv_at hl 3 rfl) ?_
    refine lv_iload_n hx hb dL_law_1043 rfl (lv_at hl 0 rfl) ?_
    refine lv_iconst (v := 3) hx hb dL_law_1044 (by decide) ?_
    refine lv_iadd hx hb dL_law_1045 ?_
    refine va_sld hx hb hX hbl hbA hS (hw_in (by omega) (by omega)) dL_law_1046 ?_
    refine lv_aload_n hx hb dL_law_1047 rfl (lv_at hl 3 rfl) ?_
    refine lv_iload_n hx hb dL_law_1048 rfl (lv_at hl 0 rfl) ?_
    refine lv_iconst (v := 4) hx hb dL_law_1049 (by decide) ?_
    refine lv_iadd hx hb dL_law_1050 ?_
    refine va_sld hx hb hX hbl hbA hS (hw_in (by omega) (by omega)) dL_law_1051 ?_
    refine lv_aload_n hx hb dL_law_1052 rfl (lv_at hl 3 rfl) ?_
    refine lv_iload_n hx hb dL_law_1053 rfl (lv_at hl 0 rfl) ?_
    refine lv_iconst (v := 5) hx hb dL_law_1054 (by decide) ?_
    refine lv_iadd hx hb dL_law_1055 ?_
    refine va_sld hx hb hX hbl hbA hS (hw_in (by omega) (by omega)) dL_law_1056 ?_
    refine hw_cM0 (va_runV (As := [.int (xs (y3 + 1).toNatClampNeg), .int (xs (y3 + 2).toNatClampNeg), .int (xs (y3 + 3).toNatClampNeg), .int (xs (y3 + 4).toNatClampNeg), .int (xs (y3 + 5).toNatClampNeg)]) (rest := []) ⟨hx, hb, hml, hown, hts⟩ (k_X12_copy l D G1 mo (xs (y3 + 1).toNatClampNeg) (xs (y3 + 2).toNatClampNeg) (xs (y3 + 3).toNatClampNeg) (xs (y3 + 4).toNatClampNeg) (xs (y3 + 5).toNatClampNeg) _ rm udm kym lom wkm dkm lnm smm fim bem rkm rlm rwm clm dgm fla fsz gm Rm ⟨by first | decide | omega, by first | decide | omega⟩ ⟨by first | decide | omega, by first | decide | omega⟩ ⟨by first | decide | omega, by first | decide | omega⟩ ⟨by first | decide | omega, by first | decide | omega⟩ ⟨by first | decide | omega, by first | decide | omega⟩ ⟨by first | decide | omega, by first | decide | omega⟩ ⟨by first | decide | omega, by first | decide | omega⟩ ⟨by first | decide | omega, by first | decide | omega⟩ ⟨by first | decide | omega, by first | decide | omega⟩ ⟨by first | decide | omega, by first | decide | omega⟩ ⟨by first | decide | omega, by first | decide | omega⟩ ⟨by first | decide | omega, by first | decide | omega⟩ qsz) (cwV 5 hts gL_law_X12_copy rfl rfl rfl (by decide +kernel) ⟨Nat.le_of_ble_eq_true rfl, Nat.le_of_ble_eq_true rfl⟩) (hw_pV (hw_rc (q := (RX12, TX12, 45)) hK vm rfl) hH hK hST hS (by decide) (hw_hG hGe1) ⟨vm, vla, vsz⟩) rfl rfl hl.1 rfl (lv_room (Nat.le_of_ble_eq_true rfl)) dL_law_1057 ⟨by show _ ≤ 600000; omega, by show _ ≤ 7302250; omega⟩) hS (hw_AWsub (by decide) hGe1 hS.1) (fun v H locs hp hz hk hS => ?_)
    rcases hp with ⟨rfl, hH, v41, v42, v43, q44⟩ | ⟨rfl, hH, v45, v46, v47, q48, q49, q50⟩ | ⟨rfl, hH, v51, v52, v53, q54, q55, q56, q57, q58⟩ | ⟨rfl, hH, v59, v60, v61, q62, q63, q64, q65, q66, q67⟩ | ⟨x68, rfl, hH, v69, v70, v71, q72, q73, q74, q75, q76, q77, q78⟩
    · have hRK := hw_Racks.kept hRK (fun q9 h9 l9 => hk q9 l9 (hw_AWn h9 (by decide) l9))
      have v6 := va_at.kept v6 (hk _ (hw_lt v6) (hw_AWn gx (by decide) (hw_lt v6)))
      have v7 := va_at.kept v7 (hk _ (hw_lt v7) (hw_AWn (hw_RX_13 Rx) (by decide) (hw_lt v7)))
      refine lv_pop hx hb dL_law_1060 rfl ?_
      refine lv_goto (tgt := 1186) hx hb dL_law_1061 (by decide) ?_
      refine W.widen (k := k + 20) (n := n + 80) (by first | omega | (show _ ≤ _; omega)) (by first | omega | (show _ ≤ _; omega)) ?_
      exact hk9 _ _ _ ⟨G1, rx, rm, pnx, pcx, ksx, scx, udm, kym, lom, wkm, dkm, lnm, smm, fim, bem, rkm, rlm, rwm, clm, dgm, fq, la, sz9, fla, fsz, hH, hGe1, wx, wm, gx, gm, Rx, v6, ⟨by first | decide | omega, by first | decide | omega⟩, v7, hRK, Rm, v41, ⟨by first | decide | omega, by first | decide | omega⟩, ⟨by first | decide | omega, by first | decide | omega⟩, ⟨by first | decide | omega, by first | decide | omega⟩, ⟨by first | decide | omega, by first | decide | omega⟩, ⟨by first | decide | omega, by first | decide | omega⟩, ⟨by first | decide | omega, by first | decide | omega⟩, ⟨by first | decide | omega, by first | decide | omega⟩, ⟨by first | decide | omega, by first | decide | omega⟩, ⟨by first | decide | omega, by first | decide | omega⟩, ⟨by first | decide | omega, by first | decide | omega⟩, ⟨by first | decide | omega, by first | decide | omega⟩, ⟨by first | decide | omega, by first | decide | omega⟩, v42, v43, qsz, hrel⟩ hS hl
    · have hRK := hw_Racks.kept hRK (fun q9 h9 l9 => hk q9 l9 (hw_AWn h9 (by decide) l9))
      have v6 := va_at.kept v6 (hk _ (hw_lt v6) (hw_AWn gx (by decide) (hw_lt v6)))
      have v7 := va_at.kept v7 (hk _ (hw_lt v7) (hw_AWn (hw_RX_13 Rx) (by decide) (hw_lt v7)))
      refine lv_pop hx hb dL_law_1060 rfl ?_
      refine lv_goto (tgt := 1186) hx hb dL_law_1061 (by decide) ?_
      refine W.widen (k := k + 20) (n := n + 80) (by first | omega | (show _ ≤ _; omega)) (by first | omega | (show _ ≤ _; omega)) ?_
      exact hk9 _ _ _ ⟨G1, rx, rm, pnx, pcx, ksx, scx, udm, kym, lom, wkm, dkm, lnm, smm, fim, bem, rkm, rlm, rwm, clm, dgm, fq, la, sz9, fla, fsz, hH, hGe1, wx, wm, gx, gm, Rx, v6, ⟨by first | decide | omega, by first | decide | omega⟩, v7, hRK, Rm, v45, ⟨by first | decide | omega, by first | decide | omega⟩, ⟨by first | decide | omega, by first | decide | omega⟩, ⟨by first | decide | omega, by first | decide | omega⟩, ⟨by first | decide | omega, by first | decide | omega⟩, ⟨by first | decide | omega, by first | decide | omega⟩, ⟨by first | decide | omega, by first | decide | omega⟩, ⟨by first | decide | omega, by first | decide | omega⟩, ⟨by first | decide | omega, by first | decide | omega⟩, ⟨by first | decide | omega, by first | decide | omega⟩, ⟨by first | decide | omega, by first | decide | omega⟩, ⟨by first | decide | omega, by first | decide | omega⟩, ⟨by first | decide | omega, by first | decide | omega⟩, v46, v47, qsz, hrel⟩ hS hl
    · have hRK := hw_Racks.kept hRK (fun q9 h9 l9 => hk q9 l9 (hw_AWn h9 (by decide) l9))
      have v6 := va_at.kept v6 (hk _ (hw_lt v6) (hw_AWn gx (by decide) (hw_lt v6)))
      have v7 := va_at.kept v7 (hk _ (hw_lt v7) (hw_AWn (hw_RX_13 Rx) (by decide) (hw_lt v7)))
      refine lv_pop hx hb dL_law_1060 rfl ?_
      refine lv_goto (tgt := 1186) hx hb dL_law_1061 (by decide) ?_
      refine W.widen (k := k + 20) (n := n + 80) (by first | omega | (show _ ≤ _; omega)) (by first | omega | (show _ ≤ _; omega)) ?_
      exact hk9 _ _ _ ⟨G1, rx, rm, pnx, pcx, ksx, scx, udm, kym, lom, wkm, dkm, lnm, smm, fim, bem, rkm, rlm, rwm, clm, dgm, fq, la, sz9, fla, fsz, hH, hGe1, wx, wm, gx, gm, Rx, v6, ⟨by first | decide | omega, by first | decide | omega⟩, v7, hRK, Rm, v51, ⟨by first | decide | omega, by first | decide | omega⟩, ⟨by first | decide | omega, by first | decide | omega⟩, ⟨by first | decide | omega, by first | decide | omega⟩, ⟨by first | decide | omega, by first | decide | omega⟩, ⟨by first | decide | omega, by first | decide | omega⟩, ⟨by first | decide | omega, by first | decide | omega⟩, ⟨by first | decide | omega, by first | decide | omega⟩, ⟨by first | decide | omega, by first | decide | omega⟩, ⟨by first | decide | omega, by first | decide | omega⟩, ⟨by first | decide | omega, by first | decide | omega⟩, ⟨by first | decide | omega, by first | decide | omega⟩, ⟨by first | decide | omega, by first | decide | omega⟩, v52, v53, qsz, hrel⟩ hS hl
    · have hRK := hw_Racks.kept hRK (fun q9 h9 l9 => hk q9 l9 (hw_AWn h9 (by decide) l9))
      have v6 := va_at.kept v6 (hk _ (hw_lt v6) (hw_AWn gx (by decide) (hw_lt v6)))
      have v7 := va_at.kept v7 (hk _ (hw_lt v7) (hw_AWn (hw_RX_13 Rx) (by decide) (hw_lt v7)))
      refine lv_pop hx hb dL_law_1060 rfl ?_
      refine lv_goto (tgt := 1186) hx hb dL_law_1061 (by decide) ?_
      refine W.widen (k := k + 20) (n := n + 80) (by first | omega | (show _ ≤ _; omega)) (by first | omega | (show _ ≤ _; omega)) ?_
      exact hk9 _ _ _ ⟨G1, rx, rm, pnx, pcx, ksx, scx, udm, kym, lom, wkm, dkm, lnm, smm, fim, bem, rkm, rlm, rwm, clm, dgm, fq, la, sz9, fla, fsz, hH, hGe1, wx, wm, gx, gm, Rx, v6, ⟨by first | decide | omega, by first | decide | omega⟩, v7, hRK, Rm, v59, ⟨by first | decide | omega, by first | decide | omega⟩, ⟨by first | decide | omega, by first | decide | omega⟩, ⟨by first | decide | omega, by first | decide | omega⟩, ⟨by first | decide | omega, by first | decide | omega⟩, ⟨by first | decide | omega, by first | decide | omega⟩, ⟨by first | decide | omega, by first | decide | omega⟩, ⟨by first | decide | omega, by first | decide | omega⟩, ⟨by first | decide | omega, by first | decide | omega⟩, ⟨by first | decide | omega, by first | decide | omega⟩, ⟨by first | decide | omega, by first | decide | omega⟩, ⟨by first | decide | omega, by first | decide | omega⟩, ⟨by first | decide | omega, by first | decide | omega⟩, v60, v61, qsz, hrel⟩ hS hl
    · have q78i := hw_ieq q78
      have hRK := hw_Racks.kept hRK (fun q9 h9 l9 => hk q9 l9 (hw_AWn h9 (by decide) l9))
      have v6 := va_at.kept v6 (hk _ (hw_lt v6) (hw_AWn gx (by decide) (hw_lt v6)))
      have v7 := va_at.kept v7 (hk _ (hw_lt v7) (hw_AWn (hw_RX_13 Rx) (by decide) (hw_lt v7)))
      refine lv_pop hx hb dL_law_1060 rfl ?_
      refine lv_goto (tgt := 1186) hx hb dL_law_1061 (by decide) ?_
      refine W.widen (k := k + 20) (n := n + 80) (by first | omega | (show _ ≤ _; omega)) (by first | omega | (show _ ≤ _; omega)) ?_
      exact hk9 _ _ _ ⟨G1, rx, rm, pnx, pcx, ksx, scx, udm, kym, lom, wkm, dkm, lnm, smm, fim, bem, rkm, rlm, rwm, clm, dgm, fq, la, sz9, fla, fsz, hH, hGe1, wx, wm, gx, gm, Rx, v6, ⟨by first | decide | omega, by first | decide | omega⟩, v7, hRK, Rm, v69, ⟨by first | decide | omega, by first | decide | omega⟩, ⟨by first | decide | omega, by first | decide | omega⟩, ⟨by first | decide | omega, by first | decide | omega⟩, ⟨by first | decide | omega, by first | decide | omega⟩, ⟨by first | decide | omega, by first | decide | omega⟩, ⟨by first | decide | omega, by first | decide | omega⟩, ⟨by first | decide | omega, by first | decide | omega⟩, ⟨by first | decide | omega, by first | decide | omega⟩, ⟨by first | decide | omega, by first | decide | omega⟩, ⟨by first | decide | omega, by first | decide | omega⟩, ⟨by first | decide | omega, by first | decide | omega⟩, ⟨by first | decide | omega, by first | decide | omega⟩, v70, v71, qsz, hrel⟩ hS hl
  · have vm := va_at.kept vm (hk _ (hw_lt vm) (hw_AWn gm (by decide) (hw_lt vm)))
    have vla := va_at.kept vla (hk _ (hw_lt vla) (hw_AWn (hw_RM_41 Rm) (by decide) (hw_lt vla)))
    have vsz := va_at.kept vsz (hk _ (hw_lt vsz) (hw_AWn (hw_RM_42 Rm) (by decide) (hw_lt vsz)))
    have hr79 : 0 ≤ (xs (y3 + 1).toNatClampNeg).toInt ∧ (xs (y3 + 1).toNatClampNeg).toInt ≤ 3 → ((la (xs (y3 + 1).toNatClampNeg).toNatClampNeg).toInt = -1 ↔ (fsz (xs (y3 + 1).toNatClampNeg).toNatClampNeg).toInt < 0) ∧ ((la (xs (y3 + 1).toNatClampNeg).toNatClampNeg).toInt ≠ -1 → (fla (xs (y3 + 1).toNatClampNeg).toNatClampNeg).toInt = (la (xs (y3 + 1).toNatClampNeg).toNatClampNeg).toInt ∧ (fsz (xs (y3 + 1).toNatClampNeg).toNatClampNeg).toInt = (sz9 (xs (y3 + 1).toNatClampNeg).toNatClampNeg).toInt) := fun h9 => hrel _ (hw_i4 h9)
    have hr80 : 0 ≤ (xs (y3 + 3).toNatClampNeg).toInt ∧ (xs (y3 + 3).toNatClampNeg).toInt ≤ 3 → ((la (xs (y3 + 3).toNatClampNeg).toNatClampNeg).toInt = -1 ↔ (fsz (xs (y3 + 3).toNatClampNeg).toNatClampNeg).toInt < 0) ∧ ((la (xs (y3 + 3).toNatClampNeg).toNatClampNeg).toInt ≠ -1 → (fla (xs (y3 + 3).toNatClampNeg).toNatClampNeg).toInt = (la (xs (y3 + 3).toNatClampNeg).toNatClampNeg).toInt ∧ (fsz (xs (y3 + 3).toNatClampNeg).toNatClampNeg).toInt = (sz9 (xs (y3 + 3).toNatClampNeg).toNatClampNeg).toInt) := fun h9 => hrel _ (hw_i4 h9)
    refine lv_pop hx hb dL_law_1030 rfl ?_
    refine lv_aload_n hx hb dL_law_1031 rfl (lv_at hl 1 rfl) ?_
    refine lv_aload_n hx hb dL_law_1032 rfl (lv_at hl 3 rfl) ?_
    refine lv_iload_n hx hb dL_law_1033 rfl (lv_at hl 0 rfl) ?_
    refine lv_iconst (v := 1) hx hb dL_law_1034 (by decide) ?_
    refine lv_iadd hx hb dL_law_1035 ?_
    refine va_sld hx hb hX hbl hbA hS (hw_in (by omega) (by omega)) dL_law_1036 ?_
    refine lv_aload_n hx hb dL_law_1037 rfl (lv_at hl 3 rfl) ?_
    refine lv_iload_n hx hb dL_law_1038 rfl (lv_at hl 0 rfl) ?_
    refine lv_iconst (v := 2) hx hb dL_law_1039 (by decide) ?_
    refine lv_iadd hx hb dL_law_1040 ?_
    refine va_sld hx hb hX hbl hbA hS (hw_in (by omega) (by omega)) dL_law_1041 ?_
    refine lv_aload_n hx hb dL_law_1042 rfl (lv_at hl 3 rfl) ?_
    refine lv_iload_n hx hb dL_law_1043 rfl (lv_at hl 0 rfl) ?_
    refine lv_iconst (v := 3) hx hb dL_law_1044 (by decide) ?_
    refine lv_iadd hx hb dL_law_1045 ?_
    refine va_sld hx hb hX hbl hbA hS (hw_in (by omega) (by omega)) dL_law_1046 ?_
    refine lv_aload_n hx hb dL_law_1047 rfl (lv_at hl 3 rfl) ?_
    refine lv_iload_n hx hb dL_law_1048 rfl (lv_at hl 0 rfl) ?_
    refine lv_iconst (v := 4) hx hb dL_law_1049 (by decide) ?_
    refine lv_iadd hx hb dL_law_1050 ?_
    refine va_sld hx hb hX hbl hbA hS (hw_in (by omega) (by omega)) dL_law_1051 ?_
    refine lv_aload_n hx hb dL_law_1052 rfl (lv_at hl 3 rfl) ?_
    refine lv_iload_n hx hb dL_law_1053 rfl (lv_at hl 0 rfl) ?_
    refine lv_iconst (v := 5) hx hb dL_law_1054 (by decide) ?_
    refine lv_iadd hx hb dL_law_1055 ?_
    refine va_sld hx hb hX hbl hbA hS (hw_in (by omega) (by omega)) dL_law_1056 ?_
    refine hw_cM0 (va_runV (As := [.int (xs (y3 + 1).toNatClampNeg), .int (xs (y3 + 2).toNatClampNeg), .int (xs (y3 + 3).toNatClampNeg), .int (xs (y3 + 4).toNatClampNeg), .int (xs (y3 + 5).toNatClampNeg)]) (rest := []) ⟨hx, hb, hml, hown, hts⟩ (k_X12_copy l D G1 mo (xs (y3 + 1).toNatClampNeg) (xs (y3 + 2).toNatClampNeg) (xs (y3 + 3).toNatClampNeg) (xs (y3 + 4).toNatClampNeg) (xs (y3 + 5).toNatClampNeg) _ rm udm kym lom wkm dkm lnm smm fim bem rkm rlm rwm clm dgm fla fsz gm Rm ⟨by first | decide | omega, by first | decide | omega⟩ ⟨by first | decide | omega, by first | decide | omega⟩ ⟨by first | decide | omega, by first | decide | omega⟩ ⟨by first | decide | omega, by first | decide | omega⟩ ⟨by first | decide | omega, by first | decide | omega⟩ ⟨by first | decide | omega, by first | decide | omega⟩ ⟨by first | decide | omega, by first | decide | omega⟩ ⟨by first | decide | omega, by first | decide | omega⟩ ⟨by first | decide | omega, by first | decide | omega⟩ ⟨by first | decide | omega, by first | decide | omega⟩ ⟨by first | decide | omega, by first | decide | omega⟩ ⟨by first | decide | omega, by first | decide | omega⟩ qsz) (cwV 5 hts gL_law_X12_copy rfl rfl rfl (by decide +kernel) ⟨Nat.le_of_ble_eq_true rfl, Nat.le_of_ble_eq_true rfl⟩) (hw_pV (hw_rc (q := (RX12, TX12, 45)) hK vm rfl) hH hK hST hS (by decide) (hw_hG hGe1) ⟨vm, vla, vsz⟩) rfl rfl hl.1 rfl (lv_room (Nat.le_of_ble_eq_true rfl)) dL_law_1057 ⟨by show _ ≤ 600000; omega, by show _ ≤ 7302250; omega⟩) hS (hw_AWsub (by decide) hGe1 hS.1) (fun v H locs hp hz hk hS => ?_)
    rcases hp with ⟨rfl, hH, v81, v82, v83, q84⟩ | ⟨rfl, hH, v85, v86, v87, q88, q89, q90⟩ | ⟨rfl, hH, v91, v92, v93, q94, q95, q96, q97, q98⟩ | ⟨rfl, hH, v99, v100, v101, q102, q103, q104, q105, q106, q107⟩ | ⟨x108, rfl, hH, v109, v110, v111, q112, q113, q114, q115, q116, q117, q118⟩
    · have hRK := hw_Racks.kept hRK (fun q9 h9 l9 => hk q9 l9 (hw_AWn h9 (by decide) l9))
      have v9 := va_at.kept v9 (hk _ (hw_lt v9) (hw_AWn gx (by decide) (hw_lt v9)))
      have v10 := va_at.kept v10 (hk _ (hw_lt v10) (hw_AWn (hw_RX_13 Rx) (by decide) (hw_lt v10)))
      refine lv_pop hx hb dL_law_1060 rfl ?_
      refine lv_goto (tgt := 1186) hx hb dL_law_1061 (by decide) ?_
      refine W.widen (k := k + 20) (n := n + 80) (by first | omega | (show _ ≤ _; omega)) (by first | omega | (show _ ≤ _; omega)) ?_
      exact hk9 _ _ _ ⟨G1, rx, rm, pnx, pcx, ksx, scx, udm, kym, lom, wkm, dkm, lnm, smm, fim, bem, rkm, rlm, rwm, clm, dgm, fq, la, sz9, fla, fsz, hH, hGe1, wx, wm, gx, gm, Rx, v9, ⟨by first | decide | omega, by first | decide | omega⟩, v10, hRK, Rm, v81, ⟨by first | decide | omega, by first | decide | omega⟩, ⟨by first | decide | omega, by first | decide | omega⟩, ⟨by first | decide | omega, by first | decide | omega⟩, ⟨by first | decide | omega, by first | decide | omega⟩, ⟨by first | decide | omega, by first | decide | omega⟩, ⟨by first | decide | omega, by first | decide | omega⟩, ⟨by first | decide | omega, by first | decide | omega⟩, ⟨by first | decide | omega, by first | decide | omega⟩, ⟨by first | decide | omega, by first | decide | omega⟩, ⟨by first | decide | omega, by first | decide | omega⟩, ⟨by first | decide | omega, by first | decide | omega⟩, ⟨by first | decide | omega, by first | decide | omega⟩, v82, v83, qsz, hrel⟩ hS hl
    · have hRK := hw_Racks.kept hRK (fun q9 h9 l9 => hk q9 l9 (hw_AWn h9 (by decide) l9))
      have v9 := va_at.kept v9 (hk _ (hw_lt v9) (hw_AWn gx (by decide) (hw_lt v9)))
      have v10 := va_at.kept v10 (hk _ (hw_lt v10) (hw_AWn (hw_RX_13 Rx) (by decide) (hw_lt v10)))
      refine lv_pop hx hb dL_law_1060 rfl ?_
      refine lv_goto (tgt := 1186) hx hb dL_law_1061 (by decide) ?_
      refine W.widen (k := k + 20) (n := n + 80) (by first | omega | (show _ ≤ _; omega)) (by first | omega | (show _ ≤ _; omega)) ?_
      exact hk9 _ _ _ ⟨G1, rx, rm, pnx, pcx, ksx, scx, udm, kym, lom, wkm, dkm, lnm, smm, fim, bem, rkm, rlm, rwm, clm, dgm, fq, la, sz9, fla, fsz, hH, hGe1, wx, wm, gx, gm, Rx, v9, ⟨by first | decide | omega, by first | decide | omega⟩, v10, hRK, Rm, v85, ⟨by first | decide | omega, by first | decide | omega⟩, ⟨by first | decide | omega, by first | decide | omega⟩, ⟨by first | decide | omega, by first | decide | omega⟩, ⟨by first | decide | omega, by first | decide | omega⟩, ⟨by first | decide | omega, by first | decide | omega⟩, ⟨by first | decide | omega, by first | decide | omega⟩, ⟨by first | decide | omega, by first | decide | omega⟩, ⟨by first | decide | omega, by first | decide | omega⟩, ⟨by first | decide | omega, by first | decide | omega⟩, ⟨by first | decide | omega, by first | decide | omega⟩, ⟨by first | decide | omega, by first | decide | omega⟩, ⟨by first | decide | omega, by first | decide | omega⟩, v86, v87, qsz, hrel⟩ hS hl
    · have hRK := hw_Racks.kept hRK (fun q9 h9 l9 => hk q9 l9 (hw_AWn h9 (by decide) l9))
      have v9 := va_at.kept v9 (hk _ (hw_lt v9) (hw_AWn gx (by decide) (hw_lt v9)))
      have v10 := va_at.kept v10 (hk _ (hw_lt v10) (hw_AWn (hw_RX_13 Rx) (by decide) (hw_lt v10)))
      refine lv_pop hx hb dL_law_1060 rfl ?_
      refine lv_goto (tgt := 1186) hx hb dL_law_1061 (by decide) ?_
      refine W.widen (k := k + 20) (n := n + 80) (by first | omega | (show _ ≤ _; omega)) (by first | omega | (show _ ≤ _; omega)) ?_
      exact hk9 _ _ _ ⟨G1, rx, rm, pnx, pcx, ksx, scx, udm, kym, lom, wkm, dkm, lnm, smm, fim, bem, rkm, rlm, rwm, clm, dgm, fq, la, sz9, fla, fsz, hH, hGe1, wx, wm, gx, gm, Rx, v9, ⟨by first | decide | omega, by first | decide | omega⟩, v10, hRK, Rm, v91, ⟨by first | decide | omega, by first | decide | omega⟩, ⟨by first | decide | omega, by first | decide | omega⟩, ⟨by first | decide | omega, by first | decide | omega⟩, ⟨by first | decide | omega, by first | decide | omega⟩, ⟨by first | decide | omega, by first | decide | omega⟩, ⟨by first | decide | omega, by first | decide | omega⟩, ⟨by first | decide | omega, by first | decide | omega⟩, ⟨by first | decide | omega, by first | decide | omega⟩, ⟨by first | decide | omega, by first | decide | omega⟩, ⟨by first | decide | omega, by first | decide | omega⟩, ⟨by first | decide | omega, by first | decide | omega⟩, ⟨by first | decide | omega, by first | decide | omega⟩, v92, v93, qsz, hrel⟩ hS hl
    · have hRK := hw_Racks.kept hRK (fun q9 h9 l9 => hk q9 l9 (hw_AWn h9 (by decide) l9))
      have v9 := va_at.kept v9 (hk _ (hw_lt v9) (hw_AWn gx (by decide) (hw_lt v9)))
      have v10 := va_at.kept v10 (hk _ (hw_lt v10) (hw_AWn (hw_RX_13 Rx) (by decide) (hw_lt v10)))
      refine lv_pop hx hb dL_law_1060 rfl ?_
      refine lv_goto (tgt := 1186) hx hb dL_law_1061 (by decide) ?_
      refine W.widen (k := k + 20) (n := n + 80) (by first | omega | (show _ ≤ _; omega)) (by first | omega | (show _ ≤ _; omega)) ?_
      exact hk9 _ _ _ ⟨G1, rx, rm, pnx, pcx, ksx, scx, udm, kym, lom, wkm, dkm, lnm, smm, fim, bem, rkm, rlm, rwm, clm, dgm, fq, la, sz9, fla, fsz, hH, hGe1, wx, wm, gx, gm, Rx, v9, ⟨by first | decide | omega, by first | decide | omega⟩, v10, hRK, Rm, v99, ⟨by first | decide | omega, by first | decide | omega⟩, ⟨by first | decide | omega, by first | decide | omega⟩, ⟨by first | decide | omega, by first | decide | omega⟩, ⟨by first | decide | omega, by first | decide | omega⟩, ⟨by first | decide | omega, by first | decide | omega⟩, ⟨by first | decide | omega, by first | decide | omega⟩, ⟨by first | decide | omega, by first | decide | omega⟩, ⟨by first | decide | omega, by first | decide | omega⟩, ⟨by first | decide | omega, by first | decide | omega⟩, ⟨by first | decide | omega, by first | decide | omega⟩, ⟨by first | decide | omega, by first | decide | omega⟩, ⟨by first | decide | omega, by first | decide | omega⟩, v100, v101, qsz, hrel⟩ hS hl
    · have q118i := hw_ieq q118
      have hRK := hw_Racks.kept hRK (fun q9 h9 l9 => hk q9 l9 (hw_AWn h9 (by decide) l9))
      have v9 := va_at.kept v9 (hk _ (hw_lt v9) (hw_AWn gx (by decide) (hw_lt v9)))
      have v10 := va_at.kept v10 (hk _ (hw_lt v10) (hw_AWn (hw_RX_13 Rx) (by decide) (hw_lt v10)))
      refine lv_pop hx hb dL_law_1060 rfl ?_
      refine lv_goto (tgt := 1186) hx hb dL_law_1061 (by decide) ?_
      refine W.widen (k := k + 20) (n := n + 80) (by first | omega | (show _ ≤ _; omega)) (by first | omega | (show _ ≤ _; omega)) ?_
      exact hk9 _ _ _ ⟨G1, rx, rm, pnx, pcx, ksx, scx, udm, kym, lom, wkm, dkm, lnm, smm, fim, bem, rkm, rlm, rwm, clm, dgm, fq, la, sz9, fla, fsz, hH, hGe1, wx, wm, gx, gm, Rx, v9, ⟨by first | decide | omega, by first | decide | omega⟩, v10, hRK, Rm, v109, ⟨by first | decide | omega, by first | decide | omega⟩, ⟨by first | decide | omega, by first | decide | omega⟩, ⟨by first | decide | omega, by first | decide | omega⟩, ⟨by first | decide | omega, by first | decide | omega⟩, ⟨by first | decide | omega, by first | decide | omega⟩, ⟨by first | decide | omega, by first | decide | omega⟩, ⟨by first | decide | omega, by first | decide | omega⟩, ⟨by first | decide | omega, by first | decide | omega⟩, ⟨by first | decide | omega, by first | decide | omega⟩, ⟨by first | decide | omega, by first | decide | omega⟩, ⟨by first | decide | omega, by first | decide | omega⟩, ⟨by first | decide | omega, by first | decide | omega⟩, v110, v111, qsz, hrel⟩ hS hl
  · have vm := va_at.kept vm (hk _ (hw_lt vm) (hw_AWn gm (by decide) (hw_lt vm)))
    have vla := va_at.kept vla (hk _ (hw_lt vla) (hw_AWn (hw_RM_41 Rm) (by decide) (hw_lt vla)))
    have vsz := va_at.kept vsz (hk _ (hw_lt vsz) (hw_AWn (hw_RM_42 Rm) (by decide) (hw_lt vsz)))
    have hr119 : 0 ≤ (xs (y3 + 1).toNatClampNeg).toInt ∧ (xs (y3 + 1).toNatClampNeg).toInt ≤ 3 → ((la (xs (y3 + 1).toNatClampNeg).toNatClampNeg).toInt = -1 ↔ (fsz (xs (y3 + 1).toNatClampNeg).toNatClampNeg).toInt < 0) ∧ ((la (xs (y3 + 1).toNatClampNeg).toNatClampNeg).toInt ≠ -1 → (fla (xs (y3 + 1).toNatClampNeg).toNatClampNeg).toInt = (la (xs (y3 + 1).toNatClampNeg).toNatClampNeg).toInt ∧ (fsz (xs (y3 + 1).toNatClampNeg).toNatClampNeg).toInt = (sz9 (xs (y3 + 1).toNatClampNeg).toNatClampNeg).toInt) := fun h9 => hrel _ (hw_i4 h9)
    have hr120 : 0 ≤ (xs (y3 + 3).toNatClampNeg).toInt ∧ (xs (y3 + 3).toNatClampNeg).toInt ≤ 3 → ((la (xs (y3 + 3).toNatClampNeg).toNatClampNeg).toInt = -1 ↔ (fsz (xs (y3 + 3).toNatClampNeg).toNatClampNeg).toInt < 0) ∧ ((la (xs (y3 + 3).toNatClampNeg).toNatClampNeg).toInt ≠ -1 → (fla (xs (y3 + 3).toNatClampNeg).toNatClampNeg).toInt = (la (xs (y3 + 3).toNatClampNeg).toNatClampNeg).toInt ∧ (fsz (xs (y3 + 3).toNatClampNeg).toNatClampNeg).toInt = (sz9 (xs (y3 + 3).toNatClampNeg).toNatClampNeg).toInt) := fun h9 => hrel _ (hw_i4 h9)
    refine lv_pop hx hb dL_law_1030 rfl ?_
    refine lv_aload_n hx hb dL_law_1031 rfl (lv_at hl 1 rfl) ?_
    refine lv_aload_n hx hb dL_law_1032 rfl (lv_at hl 3 rfl) ?_
    refine lv_iload_n hx hb dL_law_1033 rfl (lv_at hl 0 rfl) ?_
    refine lv_iconst (v := 1) hx hb dL_law_1034 (by decide) ?_
    refine lv_iadd hx hb dL_law_1035 ?_
    refine va_sld hx hb hX hbl hbA hS (hw_in (by omega) (by omega)) dL_law_1036 ?_
    refine lv_aload_n hx hb dL_law_1037 rfl (lv_at hl 3 rfl) ?_
    refine lv_iload_n hx hb dL_law_1038 rfl (lv_at hl 0 rfl) ?_
    refine lv_iconst (v := 2) hx hb dL_law_1039 (by decide) ?_
    refine lv_iadd hx hb dL_law_1040 ?_
    refine va_sld hx hb hX hbl hbA hS (hw_in (by omega) (by omega)) dL_law_1041 ?_
    refine lv_aload_n hx hb dL_law_1042 rfl (lv_at hl 3 rfl) ?_
    refine lv_iload_n hx hb dL_law_1043 rfl (lv_at hl 0 rfl) ?_
    refine lv_iconst (v := 3) hx hb dL_law_1044 (by decide) ?_
    refine lv_iadd hx hb dL_law_1045 ?_
    refine va_sld hx hb hX hbl hbA hS (hw_in (by omega) (by omega)) dL_law_1046 ?_
    refine lv_aload_n hx hb dL_law_1047 rfl (lv_at hl 3 rfl) ?_
    refine lv_iload_n hx hb dL_law_1048 rfl (lv_at hl 0 rfl) ?_
    refine lv_iconst (v := 4) hx hb dL_law_1049 (by decide) ?_
    refine lv_iadd hx hb dL_law_1050 ?_
    refine va_sld hx hb hX hbl hbA hS (hw_in (by omega) (by omega)) dL_law_1051 ?_
    refine lv_aload_n hx hb dL_law_1052 rfl (lv_at hl 3 rfl) ?_
    refine lv_iload_n hx hb dL_law_1053 rfl (lv_at hl 0 rfl) ?_
    refine lv_iconst (v := 5) hx hb dL_law_1054 (by decide) ?_
    refine lv_iadd hx hb dL_law_1055 ?_
    refine va_sld hx hb hX hbl hbA hS (hw_in (by omega) (by omega)) dL_law_1056 ?_
    refine hw_cM0 (va_runV (As := [.int (xs (y3 + 1).toNatClampNeg), .int (xs (y3 + 2).toNatClampNeg), .int (xs (y3 + 3).toNatClampNeg), .int (xs (y3 + 4).toNatClampNeg), .int (xs (y3 + 5).toNatClampNeg)]) (rest := []) ⟨hx, hb, hml, hown, hts⟩ (k_X12_copy l D G1 mo (xs (y3 + 1).toNatClampNeg) (xs (y3 + 2).toNatClampNeg) (xs (y3 + 3).toNatClampNeg) (xs (y3 + 4).toNatClampNeg) (xs (y3 + 5).toNatClampNeg) _ rm udm kym lom wkm dkm lnm smm fim bem rkm rlm rwm clm dgm fla fsz gm Rm ⟨by first | decide | omega, by first | decide | omega⟩ ⟨by first | decide | omega, by first | decide | omega⟩ ⟨by first | decide | omega, by first | decide | omega⟩ ⟨by first | decide | omega, by first | decide | omega⟩ ⟨by first | decide | omega, by first | decide | omega⟩ ⟨by first | decide | omega, by first | decide | omega⟩ ⟨by first | decide | omega, by first | decide | omega⟩ ⟨by first | decide | omega, by first | decide | omega⟩ ⟨by first | decide | omega, by first | decide | omega⟩ ⟨by first | decide | omega, by first | decide | omega⟩ ⟨by first | decide | omega, by first | decide | omega⟩ ⟨by first | decide | omega, by first | decide | omega⟩ qsz) (cwV 5 hts gL_law_X12_copy rfl rfl rfl (by decide +kernel) ⟨Nat.le_of_ble_eq_true rfl, Nat.le_of_ble_eq_true rfl⟩) (hw_pV (hw_rc (q := (RX12, TX12, 45)) hK vm rfl) hH hK hST hS (by decide) (hw_hG hGe1) ⟨vm, vla, vsz⟩) rfl rfl hl.1 rfl (lv_room (Nat.le_of_ble_eq_true rfl)) dL_law_1057 ⟨by show _ ≤ 600000; omega, by show _ ≤ 7302250; omega⟩) hS (hw_AWsub (by decide) hGe1 hS.1) (fun v H locs hp hz hk hS => ?_)
    rcases hp with ⟨rfl, hH, v121, v122, v123, q124⟩ | ⟨rfl, hH, v125, v126, v127, q128, q129, q130⟩ | ⟨rfl, hH, v131, v132, v133, q134, q135, q136, q137, q138⟩ | ⟨rfl, hH, v139, v140, v141, q142, q143, q144, q145, q146, q147⟩ | ⟨x148, rfl, hH, v149, v150, v151, q152, q153, q154, q155, q156, q157, q158⟩
    · have hRK := hw_Racks.kept hRK (fun q9 h9 l9 => hk q9 l9 (hw_AWn h9 (by decide) l9))
      have v14 := va_at.kept v14 (hk _ (hw_lt v14) (hw_AWn gx (by decide) (hw_lt v14)))
      have v15 := va_at.kept v15 (hk _ (hw_lt v15) (hw_AWn (hw_RX_13 Rx) (by decide) (hw_lt v15)))
      refine lv_pop hx hb dL_law_1060 rfl ?_
      refine lv_goto (tgt := 1186) hx hb dL_law_1061 (by decide) ?_
      refine W.widen (k := k + 20) (n := n + 80) (by first | omega | (show _ ≤ _; omega)) (by first | omega | (show _ ≤ _; omega)) ?_
      exact hk9 _ _ _ ⟨G1, rx, rm, pnx, pcx, ksx, scx, udm, kym, lom, wkm, dkm, lnm, smm, fim, bem, rkm, rlm, rwm, clm, dgm, fq, la, sz9, fla, fsz, hH, hGe1, wx, wm, gx, gm, Rx, v14, ⟨by first | decide | omega, by first | decide | omega⟩, v15, hRK, Rm, v121, ⟨by first | decide | omega, by first | decide | omega⟩, ⟨by first | decide | omega, by first | decide | omega⟩, ⟨by first | decide | omega, by first | decide | omega⟩, ⟨by first | decide | omega, by first | decide | omega⟩, ⟨by first | decide | omega, by first | decide | omega⟩, ⟨by first | decide | omega, by first | decide | omega⟩, ⟨by first | decide | omega, by first | decide | omega⟩, ⟨by first | decide | omega, by first | decide | omega⟩, ⟨by first | decide | omega, by first | decide | omega⟩, ⟨by first | decide | omega, by first | decide | omega⟩, ⟨by first | decide | omega, by first | decide | omega⟩, ⟨by first | decide | omega, by first | decide | omega⟩, v122, v123, qsz, hrel⟩ hS hl
    · have hRK := hw_Racks.kept hRK (fun q9 h9 l9 => hk q9 l9 (hw_AWn h9 (by decide) l9))
      have v14 := va_at.kept v14 (hk _ (hw_lt v14) (hw_AWn gx (by decide) (hw_lt v14)))
      have v15 := va_at.kept v15 (hk _ (hw_lt v15) (hw_AWn (hw_RX_13 Rx) (by decide) (hw_lt v15)))
      refine lv_pop hx hb dL_law_1060 rfl ?_
      refine lv_goto (tgt := 1186) hx hb dL_law_1061 (by decide) ?_
      refine W.widen (k := k + 20) (n := n + 80) (by first | omega | (show _ ≤ _; omega)) (by first | omega | (show _ ≤ _; omega)) ?_
      exact hk9 _ _ _ ⟨G1, rx, rm, pnx, pcx, ksx, scx, udm, kym, lom, wkm, dkm, lnm, smm, fim, bem, rkm, rlm, rwm, clm, dgm, fq, la, sz9, fla, fsz, hH, hGe1, wx, wm, gx, gm, Rx, v14, ⟨by first | decide | omega, by first | decide | omega⟩, v15, hRK, Rm, v125, ⟨by first | decide | omega, by first | decide | omega⟩, ⟨by first | decide | omega, by first | decide | omega⟩, ⟨by first | decide | omega, by first | decide | omega⟩, ⟨by first | decide | omega, by first | decide | omega⟩, ⟨by first | decide | omega, by first | decide | omega⟩, ⟨by first | decide | omega, by first | decide | omega⟩, ⟨by first | decide | omega, by first | decide | omega⟩, ⟨by first | decide | omega, by first | decide | omega⟩, ⟨by first | decide | omega, by first | decide | omega⟩, ⟨by first | decide | omega, by first | decide | omega⟩, ⟨by first | decide | omega, by first | decide | omega⟩, ⟨by first | decide | omega, by first | decide | omega⟩, v126, v127, qsz, hrel⟩ hS hl
    · have hRK := hw_Racks.kept hRK (fun q9 h9 l9 => hk q9 l9 (hw_AWn h9 (by decide) l9))
      have v14 := va_at.kept v14 (hk _ (hw_lt v14) (hw_AWn gx (by decide) (hw_lt v14)))
      have v15 := va_at.kept v15 (hk _ (hw_lt v15) (hw_AWn (hw_RX_13 Rx) (by decide) (hw_lt v15)))
      refine lv_pop hx hb dL_law_1060 rfl ?_
      refine lv_goto (tgt := 1186) hx hb dL_law_1061 (by decide) ?_
      refine W.widen (k := k + 20) (n := n + 80) (by first | omega | (show _ ≤ _; omega)) (by first | omega | (show _ ≤ _; omega)) ?_
      exact hk9 _ _ _ ⟨G1, rx, rm, pnx, pcx, ksx, scx, udm, kym, lom, wkm, dkm, lnm, smm, fim, bem, rkm, rlm, rwm, clm, dgm, fq, la, sz9, fla, fsz, hH, hGe1, wx, wm, gx, gm, Rx, v14, ⟨by first | decide | omega, by first | decide | omega⟩, v15, hRK, Rm, v131, ⟨by first | decide | omega, by first | decide | omega⟩, ⟨by first | decide | omega, by first | decide | omega⟩, ⟨by first | decide | omega, by first | decide | omega⟩, ⟨by first | decide | omega, by first | decide | omega⟩, ⟨by first | decide | omega, by first | decide | omega⟩, ⟨by first | decide | omega, by first | decide | omega⟩, ⟨by first | decide | omega, by first | decide | omega⟩, ⟨by first | decide | omega, by first | decide | omega⟩, ⟨by first | decide | omega, by first | decide | omega⟩, ⟨by first | decide | omega, by first | decide | omega⟩, ⟨by first | decide | omega, by first | decide | omega⟩, ⟨by first | decide | omega, by first | decide | omega⟩, v132, v133, qsz, hrel⟩ hS hl
    · have hRK := hw_Racks.kept hRK (fun q9 h9 l9 => hk q9 l9 (hw_AWn h9 (by decide) l9))
      have v14 := va_at.kept v14 (hk _ (hw_lt v14) (hw_AWn gx (by decide) (hw_lt v14)))
      have v15 := va_at.kept v15 (hk _ (hw_lt v15) (hw_AWn (hw_RX_13 Rx) (by decide) (hw_lt v15)))
      refine lv_pop hx hb dL_law_1060 rfl ?_
      refine lv_goto (tgt := 1186) hx hb dL_law_1061 (by decide) ?_
      refine W.widen (k := k + 20) (n := n + 80) (by first | omega | (show _ ≤ _; omega)) (by first | omega | (show _ ≤ _; omega)) ?_
      exact hk9 _ _ _ ⟨G1, rx, rm, pnx, pcx, ksx, scx, udm, kym, lom, wkm, dkm, lnm, smm, fim, bem, rkm, rlm, rwm, clm, dgm, fq, la, sz9, fla, fsz, hH, hGe1, wx, wm, gx, gm, Rx, v14, ⟨by first | decide | omega, by first | decide | omega⟩, v15, hRK, Rm, v139, ⟨by first | decide | omega, by first | decide | omega⟩, ⟨by first | decide | omega, by first | decide | omega⟩, ⟨by first | decide | omega, by first | decide | omega⟩, ⟨by first | decide | omega, by first | decide | omega⟩, ⟨by first | decide | omega, by first | decide | omega⟩, ⟨by first | decide | omega, by first | decide | omega⟩, ⟨by first | decide | omega, by first | decide | omega⟩, ⟨by first | decide | omega, by first | decide | omega⟩, ⟨by first | decide | omega, by first | decide | omega⟩, ⟨by first | decide | omega, by first | decide | omega⟩, ⟨by first | decide | omega, by first | decide | omega⟩, ⟨by first | decide | omega, by first | decide | omega⟩, v140, v141, qsz, hrel⟩ hS hl
    · have q158i := hw_ieq q158
      have hRK := hw_Racks.kept hRK (fun q9 h9 l9 => hk q9 l9 (hw_AWn h9 (by decide) l9))
      have v14 := va_at.kept v14 (hk _ (hw_lt v14) (hw_AWn gx (by decide) (hw_lt v14)))
      have v15 := va_at.kept v15 (hk _ (hw_lt v15) (hw_AWn (hw_RX_13 Rx) (by decide) (hw_lt v15)))
      refine lv_pop hx hb dL_law_1060 rfl ?_
      refine lv_goto (tgt := 1186) hx hb dL_law_1061 (by decide) ?_
      refine W.widen (k := k + 20) (n := n + 80) (by first | omega | (show _ ≤ _; omega)) (by first | omega | (show _ ≤ _; omega)) ?_
      exact hk9 _ _ _ ⟨G1, rx, rm, pnx, pcx, ksx, scx, udm, kym, lom, wkm, dkm, lnm, smm, fim, bem, rkm, rlm, rwm, clm, dgm, fq, la, sz9, fla, fsz, hH, hGe1, wx, wm, gx, gm, Rx, v14, ⟨by first | decide | omega, by first | decide | omega⟩, v15, hRK, Rm, v149, ⟨by first | decide | omega, by first | decide | omega⟩, ⟨by first | decide | omega, by first | decide | omega⟩, ⟨by first | decide | omega, by first | decide | omega⟩, ⟨by first | decide | omega, by first | decide | omega⟩, ⟨by first | decide | omega, by first | decide | omega⟩, ⟨by first | decide | omega, by first | decide | omega⟩, ⟨by first | decide | omega, by first | decide | omega⟩, ⟨by first | decide | omega, by first | decide | omega⟩, ⟨by first | decide | omega, by first | decide | omega⟩, ⟨by first | decide | omega, by first | decide | omega⟩, ⟨by first | decide | omega, by first | decide | omega⟩, ⟨by first | decide | omega, by first | decide | omega⟩, v150, v151, qsz, hrel⟩ hS hl
  · have vm := va_at.kept vm (hk _ (hw_lt vm) (hw_AWn gm (by decide) (hw_lt vm)))
    have vla := va_at.kept vla (hk _ (hw_lt vla) (hw_AWn (hw_RM_41 Rm) (by decide) (hw_lt vla)))
    have vsz := va_at.kept vsz (hk _ (hw_lt vsz) (hw_AWn (hw_RM_42 Rm) (by decide) (hw_lt vsz)))
    have hr159 : 0 ≤ (xs (y3 + 1).toNatClampNeg).toInt ∧ (xs (y3 + 1).toNatClampNeg).toInt ≤ 3 → ((la (xs (y3 + 1).toNatClampNeg).toNatClampNeg).toInt = -1 ↔ (fsz (xs (y3 + 1).toNatClampNeg).toNatClampNeg).toInt < 0) ∧ ((la (xs (y3 + 1).toNatClampNeg).toNatClampNeg).toInt ≠ -1 → (fla (xs (y3 + 1).toNatClampNeg).toNatClampNeg).toInt = (la (xs (y3 + 1).toNatClampNeg).toNatClampNeg).toInt ∧ (fsz (xs (y3 + 1).toNatClampNeg).toNatClampNeg).toInt = (sz9 (xs (y3 + 1).toNatClampNeg).toNatClampNeg).toInt) := fun h9 => hrel _ (hw_i4 h9)
    have hr160 : 0 ≤ (xs (y3 + 3).toNatClampNeg).toInt ∧ (xs (y3 + 3).toNatClampNeg).toInt ≤ 3 → ((la (xs (y3 + 3).toNatClampNeg).toNatClampNeg).toInt = -1 ↔ (fsz (xs (y3 + 3).toNatClampNeg).toNatClampNeg).toInt < 0) ∧ ((la (xs (y3 + 3).toNatClampNeg).toNatClampNeg).toInt ≠ -1 → (fla (xs (y3 + 3).toNatClampNeg).toNatClampNeg).toInt = (la (xs (y3 + 3).toNatClampNeg).toNatClampNeg).toInt ∧ (fsz (xs (y3 + 3).toNatClampNeg).toNatClampNeg).toInt = (sz9 (xs (y3 + 3).toNatClampNeg).toNatClampNeg).toInt) := fun h9 => hrel _ (hw_i4 h9)
    refine lv_pop hx hb dL_law_1030 rfl ?_
    refine lv_aload_n hx hb dL_law_1031 rfl (lv_at hl 1 rfl) ?_
    refine lv_aload_n hx hb dL_law_1032 rfl (lv_at hl 3 rfl) ?_
    refine lv_iload_n hx hb dL_law_1033 rfl (lv_at hl 0 rfl) ?_
    refine lv_iconst (v := 1) hx hb dL_law_1034 (by decide) ?_
    refine lv_iadd hx hb dL_law_1035 ?_
    refine va_sld hx hb hX hbl hbA hS (hw_in (by omega) (by omega)) dL_law_1036 ?_
    refine lv_aload_n hx hb dL_law_1037 rfl (lv_at hl 3 rfl) ?_
    refine lv_iload_n hx hb dL_law_1038 rfl (lv_at hl 0 rfl) ?_
    refine lv_iconst (v := 2) hx hb dL_law_1039 (by decide) ?_
    refine lv_iadd hx hb dL_law_1040 ?_
    refine va_sld hx hb hX hbl hbA hS (hw_in (by omega) (by omega)) dL_law_1041 ?_
    refine lv_aload_n hx hb dL_law_1042 rfl (lv_at hl 3 rfl) ?_
    refine lv_iload_n hx hb dL_law_1043 rfl (lv_at hl 0 rfl) ?_
    refine lv_iconst (v := 3) hx hb dL_law_1044 (by decide) ?_
    refine lv_iadd hx hb dL_law_1045 ?_
    refine va_sld hx hb hX hbl hbA hS (hw_in (by omega) (by omega)) dL_law_1046 ?_
    refine lv_aload_n hx hb dL_law_1047 rfl (lv_at hl 3 rfl) ?_
    refine lv_iload_n hx hb dL_law_1048 rfl (lv_at hl 0 rfl) ?_
    refine lv_iconst (v := 4) hx hb dL_law_1049 (by decide) ?_
    refine lv_iadd hx hb dL_law_1050 ?_
    refine va_sld hx hb hX hbl hbA hS (hw_in (by omega) (by omega)) dL_law_1051 ?_
    refine lv_aload_n hx hb dL_law_1052 rfl (lv_at hl 3 rfl) ?_
    refine lv_iload_n hx hb dL_law_1053 rfl (lv_at hl 0 rfl) ?_
    refine lv_iconst (v := 5) hx hb dL_law_1054 (by decide) ?_
    refine lv_iadd hx hb dL_law_1055 ?_
    refine va_sld hx hb hX hbl hbA hS (hw_in (by omega) (by omega)) dL_law_1056 ?_
    refine hw_cM0 (va_runV (As := [.int (xs (y3 + 1).toNatClampNeg), .int (xs (y3 + 2).toNatClampNeg), .int (xs (y3 + 3).toNatClampNeg), .int (xs (y3 + 4).toNatClampNeg), .int (xs (y3 + 5).toNatClampNeg)]) (rest := []) ⟨hx, hb, hml, hown, hts⟩ (k_X12_copy l D G1 mo (xs (y3 + 1).toNatClampNeg) (xs (y3 + 2).toNatClampNeg) (xs (y3 + 3).toNatClampNeg) (xs (y3 + 4).toNatClampNeg) (xs (y3 + 5).toNatClampNeg) _ rm udm kym lom wkm dkm lnm smm fim bem rkm rlm rwm clm dgm fla fsz gm Rm ⟨by first | decide | omega, by first | decide | omega⟩ ⟨by first | decide | omega, by first | decide | omega⟩ ⟨by first | decide | omega, by first | decide | omega⟩ ⟨by first | decide | omega, by first | decide | omega⟩ ⟨by first | decide | omega, by first | decide | omega⟩ ⟨by first | decide | omega, by first | decide | omega⟩ ⟨by first | decide | omega, by first | decide | omega⟩ ⟨by first | decide | omega, by first | decide | omega⟩ ⟨by first | decide | omega, by first | decide | omega⟩ ⟨by first | decide | omega, by first | decide | omega⟩ ⟨by first | decide | omega, by first | decide | omega⟩ ⟨by first | decide | omega, by first | decide | omega⟩ qsz) (cwV 5 hts gL_law_X12_copy rfl rfl rfl (by decide +kernel) ⟨Nat.le_of_ble_eq_true rfl, Nat.le_of_ble_eq_true rfl⟩) (hw_pV (hw_rc (q := (RX12, TX12, 45)) hK vm rfl) hH hK hST hS (by decide) (hw_hG hGe1) ⟨vm, vla, vsz⟩) rfl rfl hl.1 rfl (lv_room (Nat.le_of_ble_eq_true rfl)) dL_law_1057 ⟨by show _ ≤ 600000; omega, by show _ ≤ 7302250; omega⟩) hS (hw_AWsub (by decide) hGe1 hS.1) (fun v H locs hp hz hk hS => ?_)
    rcases hp with ⟨rfl, hH, v161, v162, v163, q164⟩ | ⟨rfl, hH, v165, v166, v167, q168, q169, q170⟩ | ⟨rfl, hH, v171, v172, v173, q174, q175, q176, q177, q178⟩ | ⟨rfl, hH, v179, v180, v181, q182, q183, q184, q185, q186, q187⟩ | ⟨x188, rfl, hH, v189, v190, v191, q192, q193, q194, q195, q196, q197, q198⟩
    · have hRK := hw_Racks.kept hRK (fun q9 h9 l9 => hk q9 l9 (hw_AWn h9 (by decide) l9))
      have v21 := va_at.kept v21 (hk _ (hw_lt v21) (hw_AWn gx (by decide) (hw_lt v21)))
      have v22 := va_at.kept v22 (hk _ (hw_lt v22) (hw_AWn (hw_RX_13 Rx) (by decide) (hw_lt v22)))
      refine lv_pop hx hb dL_law_1060 rfl ?_
      refine lv_goto (tgt := 1186) hx hb dL_law_1061 (by decide) ?_
      refine W.widen (k := k + 20) (n := n + 80) (by first | omega | (show _ ≤ _; omega)) (by first | omega | (show _ ≤ _; omega)) ?_
      exact hk9 _ _ _ ⟨G1, rx, rm, pnx, pcx, ksx, scx, udm, kym, lom, wkm, dkm, lnm, smm, fim, bem, rkm, rlm, rwm, clm, dgm, fq, la, sz9, fla, fsz, hH, hGe1, wx, wm, gx, gm, Rx, v21, ⟨by first | decide | omega, by first | decide | omega⟩, v22, hRK, Rm, v161, ⟨by first | decide | omega, by first | decide | omega⟩, ⟨by first | decide | omega, by first | decide | omega⟩, ⟨by first | decide | omega, by first | decide | omega⟩, ⟨by first | decide | omega, by first | decide | omega⟩, ⟨by first | decide | omega, by first | decide | omega⟩, ⟨by first | decide | omega, by first | decide | omega⟩, ⟨by first | decide | omega, by first | decide | omega⟩, ⟨by first | decide | omega, by first | decide | omega⟩, ⟨by first | decide | omega, by first | decide | omega⟩, ⟨by first | decide | omega, by first | decide | omega⟩, ⟨by first | decide | omega, by first | decide | omega⟩, ⟨by first | decide | omega, by first | decide | omega⟩, v162, v163, qsz, hrel⟩ hS hl
    · have hRK := hw_Racks.kept hRK (fun q9 h9 l9 => hk q9 l9 (hw_AWn h9 (by decide) l9))
      have v21 := va_at.kept v21 (hk _ (hw_lt v21) (hw_AWn gx (by decide) (hw_lt v21)))
      have v22 := va_at.kept v22 (hk _ (hw_lt v22) (hw_AWn (hw_RX_13 Rx) (by decide) (hw_lt v22)))
      refine lv_pop hx hb dL_law_1060 rfl ?_
      refine lv_goto (tgt := 1186) hx hb dL_law_1061 (by decide) ?_
      refine W.widen (k := k + 20) (n := n + 80) (by first | omega | (show _ ≤ _; omega)) (by first | omega | (show _ ≤ _; omega)) ?_
      exact hk9 _ _ _ ⟨G1, rx, rm, pnx, pcx, ksx, scx, udm, kym, lom, wkm, dkm, lnm, smm, fim, bem, rkm, rlm, rwm, clm, dgm, fq, la, sz9, fla, fsz, hH, hGe1, wx, wm, gx, gm, Rx, v21, ⟨by first | decide | omega, by first | decide | omega⟩, v22, hRK, Rm, v165, ⟨by first | decide | omega, by first | decide | omega⟩, ⟨by first | decide | omega, by first | decide | omega⟩, ⟨by first | decide | omega, by first | decide | omega⟩, ⟨by first | decide | omega, by first | decide | omega⟩, ⟨by first | decide | omega, by first | decide | omega⟩, ⟨by first | decide | omega, by first | decide | omega⟩, ⟨by first | decide | omega, by first | decide | omega⟩, ⟨by first | decide | omega, by first | decide | omega⟩, ⟨by first | decide | omega, by first | decide | omega⟩, ⟨by first | decide | omega, by first | decide | omega⟩, ⟨by first | decide | omega, by first | decide | omega⟩, ⟨by first | decide | omega, by first | decide | omega⟩, v166, v167, qsz, hrel⟩ hS hl
    · have hRK := hw_Racks.kept hRK (fun q9 h9 l9 => hk q9 l9 (hw_AWn h9 (by decide) l9))
      have v21 := va_at.kept v21 (hk _ (hw_lt v21) (hw_AWn gx (by decide) (hw_lt v21)))
      have v22 := va_at.kept v22 (hk _ (hw_lt v22) (hw_AWn (hw_RX_13 Rx) (by decide) (hw_lt v22)))
      refine lv_pop hx hb dL_law_1060 rfl ?_
      refine lv_goto (tgt := 1186) hx hb dL_law_1061 (by decide) ?_
      refine W.widen (k := k + 20) (n := n + 80) (by first | omega | (show _ ≤ _; omega)) (by first | omega | (show _ ≤ _; omega)) ?_
      exact hk9 _ _ _ ⟨G1, rx, rm, pnx, pcx, ksx, scx, udm, kym, lom, wkm, dkm, lnm, smm, fim, bem, rkm, rlm, rwm, clm, dgm, fq, la, sz9, fla, fsz, hH, hGe1, wx, wm, gx, gm, Rx, v21, ⟨by first | decide | omega, by first | decide | omega⟩, v22, hRK, Rm, v171, ⟨by first | decide | omega, by first | decide | omega⟩, ⟨by first | decide | omega, by first | decide | omega⟩, ⟨by first | decide | omega, by first | decide | omega⟩, ⟨by first | decide | omega, by first | decide | omega⟩, ⟨by first | decide | omega, by first | decide | omega⟩, ⟨by first | decide | omega, by first | decide | omega⟩, ⟨by first | decide | omega, by first | decide | omega⟩, ⟨by first | decide | omega, by first | decide | omega⟩, ⟨by first | decide | omega, by first | decide | omega⟩, ⟨by first | decide | omega, by first | decide | omega⟩, ⟨by first | decide | omega, by first | decide | omega⟩, ⟨by first | decide | omega, by first | decide | omega⟩, v172, v173, qsz, hrel⟩ hS hl
    · have hRK := hw_Racks.kept hRK (fun q9 h9 l9 => hk q9 l9 (hw_AWn h9 (by decide) l9))
      have v21 := va_at.kept v21 (hk _ (hw_lt v21) (hw_AWn gx (by decide) (hw_lt v21)))
      have v22 := va_at.kept v22 (hk _ (hw_lt v22) (hw_AWn (hw_RX_13 Rx) (by decide) (hw_lt v22)))
      refine lv_pop hx hb dL_law_1060 rfl ?_
      refine lv_goto (tgt := 1186) hx hb dL_law_1061 (by decide) ?_
      refine W.widen (k := k + 20) (n := n + 80) (by first | omega | (show _ ≤ _; omega)) (by first | omega | (show _ ≤ _; omega)) ?_
      exact hk9 _ _ _ ⟨G1, rx, rm, pnx, pcx, ksx, scx, udm, kym, lom, wkm, dkm, lnm, smm, fim, bem, rkm, rlm, rwm, clm, dgm, fq, la, sz9, fla, fsz, hH, hGe1, wx, wm, gx, gm, Rx, v21, ⟨by first | decide | omega, by first | decide | omega⟩, v22, hRK, Rm, v179, ⟨by first | decide | omega, by first | decide | omega⟩, ⟨by first | decide | omega, by first | decide | omega⟩, ⟨by first | decide | omega, by first | decide | omega⟩, ⟨by first | decide | omega, by first | decide | omega⟩, ⟨by first | decide | omega, by first | decide | omega⟩, ⟨by first | decide | omega, by first | decide | omega⟩, ⟨by first | decide | omega, by first | decide | omega⟩, ⟨by first | decide | omega, by first | decide | omega⟩, ⟨by first | decide | omega, by first | decide | omega⟩, ⟨by first | decide | omega, by first | decide | omega⟩, ⟨by first | decide | omega, by first | decide | omega⟩, ⟨by first | decide | omega, by first | decide | omega⟩, v180, v181, qsz, hrel⟩ hS hl
    · have q198i := hw_ieq q198
      have hRK := hw_Racks.kept hRK (fun q9 h9 l9 => hk q9 l9 (hw_AWn h9 (by decide) l9))
      have v21 := va_at.kept v21 (hk _ (hw_lt v21) (hw_AWn gx (by decide) (hw_lt v21)))
      have v22 := va_at.kept v22 (hk _ (hw_lt v22) (hw_AWn (hw_RX_13 Rx) (by decide) (hw_lt v22)))
      refine lv_pop hx hb dL_law_1060 rfl ?_
      refine lv_goto (tgt := 1186) hx hb dL_law_1061 (by decide) ?_
      refine W.widen (k := k + 20) (n := n + 80) (by first | omega | (show _ ≤ _; omega)) (by first | omega | (show _ ≤ _; omega)) ?_
      exact hk9 _ _ _ ⟨G1, rx, rm, pnx, pcx, ksx, scx, udm, kym, lom, wkm, dkm, lnm, smm, fim, bem, rkm, rlm, rwm, clm, dgm, fq, la, sz9, fla, fsz, hH, hGe1, wx, wm, gx, gm, Rx, v21, ⟨by first | decide | omega, by first | decide | omega⟩, v22, hRK, Rm, v189, ⟨by first | decide | omega, by first | decide | omega⟩, ⟨by first | decide | omega, by first | decide | omega⟩, ⟨by first | decide | omega, by first | decide | omega⟩, ⟨by first | decide | omega, by first | decide | omega⟩, ⟨by first | decide | omega, by first | decide | omega⟩, ⟨by first | decide | omega, by first | decide | omega⟩, ⟨by first | decide | omega, by first | decide | omega⟩, ⟨by first | decide | omega, by first | decide | omega⟩, ⟨by first | decide | omega, by first | decide | omega⟩, ⟨by first | decide | omega, by first | decide | omega⟩, ⟨by first | decide | omega, by first | decide | omega⟩, ⟨by first | decide | omega, by first | decide | omega⟩, v190, v191, qsz, hrel⟩ hS hl
  · have q38i := hw_ieq q38
    have vm := va_at.kept vm (hk _ (hw_lt vm) (hw_AWn gm (by decide) (hw_lt vm)))
    have vla := va_at.kept vla (hk _ (hw_lt vla) (hw_AWn (hw_RM_41 Rm) (by decide) (hw_lt vla)))
    have vsz := va_at.kept vsz (hk _ (hw_lt vsz) (hw_AWn (hw_RM_42 Rm) (by decide) (hw_lt vsz)))
    have hr199 : 0 ≤ (xs (y3 + 1).toNatClampNeg).toInt ∧ (xs (y3 + 1).toNatClampNeg).toInt ≤ 3 → ((la (xs (y3 + 1).toNatClampNeg).toNatClampNeg).toInt = -1 ↔ (fsz (xs (y3 + 1).toNatClampNeg).toNatClampNeg).toInt < 0) ∧ ((la (xs (y3 + 1).toNatClampNeg).toNatClampNeg).toInt ≠ -1 → (fla (xs (y3 + 1).toNatClampNeg).toNatClampNeg).toInt = (la (xs (y3 + 1).toNatClampNeg).toNatClampNeg).toInt ∧ (fsz (xs (y3 + 1).toNatClampNeg).toNatClampNeg).toInt = (sz9 (xs (y3 + 1).toNatClampNeg).toNatClampNeg).toInt) := fun h9 => hrel _ (hw_i4 h9)
    have hr200 : 0 ≤ (xs (y3 + 3).toNatClampNeg).toInt ∧ (xs (y3 + 3).toNatClampNeg).toInt ≤ 3 → ((la (xs (y3 + 3).toNatClampNeg).toNatClampNeg).toInt = -1 ↔ (fsz (xs (y3 + 3).toNatClampNeg).toNatClampNeg).toInt < 0) ∧ ((la (xs (y3 + 3).toNatClampNeg).toNatClampNeg).toInt ≠ -1 → (fla (xs (y3 + 3).toNatClampNeg).toNatClampNeg).toInt = (la (xs (y3 + 3).toNatClampNeg).toNatClampNeg).toInt ∧ (fsz (xs (y3 + 3).toNatClampNeg).toNatClampNeg).toInt = (sz9 (xs (y3 + 3).toNatClampNeg).toNatClampNeg).toInt) := fun h9 => hrel _ (hw_i4 h9)
    refine lv_pop hx hb dL_law_1030 rfl ?_
    refine lv_aload_n hx hb dL_law_1031 rfl (lv_at hl 1 rfl) ?_
    refine lv_aload_n hx hb dL_law_1032 rfl (lv_at hl 3 rfl) ?_
    refine lv_iload_n hx hb dL_law_1033 rfl (lv_at hl 0 rfl) ?_
    refine lv_iconst (v := 1) hx hb dL_law_1034 (by decide) ?_
    refine lv_iadd hx hb dL_law_1035 ?_
    refine va_sld hx hb hX hbl hbA hS (hw_in (by omega) (by omega)) dL_law_1036 ?_
    refine lv_aload_n hx hb dL_law_1037 rfl (lv_at hl 3 rfl) ?_
    refine lv_iload_n hx hb dL_law_1038 rfl (lv_at hl 0 rfl) ?_
    refine lv_iconst (v := 2) hx hb dL_law_1039 (by decide) ?_
    refine lv_iadd hx hb dL_law_1040 ?_
    refine va_sld hx hb hX hbl hbA hS (hw_in (by omega) (by omega)) dL_law_1041 ?_
    refine lv_aload_n hx hb dL_law_1042 rfl (lv_at hl 3 rfl) ?_
    refine lv_iload_n hx hb dL_law_1043 rfl (lv_at hl 0 rfl) ?_
    refine lv_iconst (v := 3) hx hb dL_law_1044 (by decide) ?_
    refine lv_iadd hx hb dL_law_1045 ?_
    refine va_sld hx hb hX hbl hbA hS (hw_in (by omega) (by omega)) dL_law_1046 ?_
    refine lv_aload_n hx hb dL_law_1047 rfl (lv_at hl 3 rfl) ?_
    refine lv_iload_n hx hb dL_law_1048 rfl (lv_at hl 0 rfl) ?_
    refine lv_iconst (v := 4) hx hb dL_law_1049 (by decide) ?_
    refine lv_iadd hx hb dL_law_1050 ?_
    refine va_sld hx hb hX hbl hbA hS (hw_in (by omega) (by omega)) dL_law_1051 ?_
    refine lv_aload_n hx hb dL_law_1052 rfl (lv_at hl 3 rfl) ?_
    refine lv_iload_n hx hb dL_law_1053 rfl (lv_at hl 0 rfl) ?_
    refine lv_iconst (v := 5) hx hb dL_law_1054 (by decide) ?_
    refine lv_iadd hx hb dL_law_1055 ?_
    refine va_sld hx hb hX hbl hbA hS (hw_in (by omega) (by omega)) dL_law_1056 ?_
    refine hw_cM0 (va_runV (As := [.int (xs (y3 + 1).toNatClampNeg), .int (xs (y3 + 2).toNatClampNeg), .int (xs (y3 + 3).toNatClampNeg), .int (xs (y3 + 4).toNatClampNeg), .int (xs (y3 + 5).toNatClampNeg)]) (rest := []) ⟨hx, hb, hml, hown, hts⟩ (k_X12_copy l D G1 mo (xs (y3 + 1).toNatClampNeg) (xs (y3 + 2).toNatClampNeg) (xs (y3 + 3).toNatClampNeg) (xs (y3 + 4).toNatClampNeg) (xs (y3 + 5).toNatClampNeg) _ rm udm kym lom wkm dkm lnm smm fim bem rkm rlm rwm clm dgm fla fsz gm Rm ⟨by first | decide | omega, by first | decide | omega⟩ ⟨by first | decide | omega, by first | decide | omega⟩ ⟨by first | decide | omega, by first | decide | omega⟩ ⟨by first | decide | omega, by first | decide | omega⟩ ⟨by first | decide | omega, by first | decide | omega⟩ ⟨by first | decide | omega, by first | decide | omega⟩ ⟨by first | decide | omega, by first | decide | omega⟩ ⟨by first | decide | omega, by first | decide | omega⟩ ⟨by first | decide | omega, by first | decide | omega⟩ ⟨by first | decide | omega, by first | decide | omega⟩ ⟨by first | decide | omega, by first | decide | omega⟩ ⟨by first | decide | omega, by first | decide | omega⟩ qsz) (cwV 5 hts gL_law_X12_copy rfl rfl rfl (by decide +kernel) ⟨Nat.le_of_ble_eq_true rfl, Nat.le_of_ble_eq_true rfl⟩) (hw_pV (hw_rc (q := (RX12, TX12, 45)) hK vm rfl) hH hK hST hS (by decide) (hw_hG hGe1) ⟨vm, vla, vsz⟩) rfl rfl hl.1 rfl (lv_room (Nat.le_of_ble_eq_true rfl)) dL_law_1057 ⟨by show _ ≤ 600000; omega, by show _ ≤ 7302250; omega⟩) hS (hw_AWsub (by decide) hGe1 hS.1) (fun v H locs hp hz hk hS => ?_)
    rcases hp with ⟨rfl, hH, v201, v202, v203, q204⟩ | ⟨rfl, hH, v205, v206, v207, q208, q209, q210⟩ | ⟨rfl, hH, v211, v212, v213, q214, q215, q216, q217, q218⟩ | ⟨rfl, hH, v219, v220, v221, q222, q223, q224, q225, q226, q227⟩ | ⟨x228, rfl, hH, v229, v230, v231, q232, q233, q234, q235, q236, q237, q238⟩
    · have hRK := hw_Racks.kept hRK (fun q9 h9 l9 => hk q9 l9 (hw_AWn h9 (by decide) l9))
      have v30 := va_at.kept v30 (hk _ (hw_lt v30) (hw_AWn gx (by decide) (hw_lt v30)))
      have v31 := va_at.kept v31 (hk _ (hw_lt v31) (hw_AWn (hw_RX_13 Rx) (by decide) (hw_lt v31)))
      refine lv_pop hx hb dL_law_1060 rfl ?_
      refine lv_goto (tgt := 1186) hx hb dL_law_1061 (by decide) ?_
      refine W.widen (k := k + 20) (n := n + 80) (by first | omega | (show _ ≤ _; omega)) (by first | omega | (show _ ≤ _; omega)) ?_
      exact hk9 _ _ _ ⟨G1, rx, rm, pnx, pcx, ksx, scx, udm, kym, lom, wkm, dkm, lnm, smm, fim, bem, rkm, rlm, rwm, clm, dgm, fq, la, sz9, fla, fsz, hH, hGe1, wx, wm, gx, gm, Rx, v30, ⟨by first | decide | omega, by first | decide | omega⟩, v31, hRK, Rm, v201, ⟨by first | decide | omega, by first | decide | omega⟩, ⟨by first | decide | omega, by first | decide | omega⟩, ⟨by first | decide | omega, by first | decide | omega⟩, ⟨by first | decide | omega, by first | decide | omega⟩, ⟨by first | decide | omega, by first | decide | omega⟩, ⟨by first | decide | omega, by first | decide | omega⟩, ⟨by first | decide | omega, by first | decide | omega⟩, ⟨by first | decide | omega, by first | decide | omega⟩, ⟨by first | decide | omega, by first | decide | omega⟩, ⟨by first | decide | omega, by first | decide | omega⟩, ⟨by first | decide | omega, by first | decide | omega⟩, ⟨by first | decide | omega, by first | decide | omega⟩, v202, v203, qsz, hrel⟩ hS hl
    · have hRK := hw_Racks.kept hRK (fun q9 h9 l9 => hk q9 l9 (hw_AWn h9 (by decide) l9))
      have v30 := va_at.kept v30 (hk _ (hw_lt v30) (hw_AWn gx (by decide) (hw_lt v30)))
      have v31 := va_at.kept v31 (hk _ (hw_lt v31) (hw_AWn (hw_RX_13 Rx) (by decide) (hw_lt v31)))
      refine lv_pop hx hb dL_law_1060 rfl ?_
      refine lv_goto (tgt := 1186) hx hb dL_law_1061 (by decide) ?_
      refine W.widen (k := k + 20) (n := n + 80) (by first | omega | (show _ ≤ _; omega)) (by first | omega | (show _ ≤ _; omega)) ?_
      exact hk9 _ _ _ ⟨G1, rx, rm, pnx, pcx, ksx, scx, udm, kym, lom, wkm, dkm, lnm, smm, fim, bem, rkm, rlm, rwm, clm, dgm, fq, la, sz9, fla, fsz, hH, hGe1, wx, wm, gx, gm, Rx, v30, ⟨by first | decide | omega, by first | decide | omega⟩, v31, hRK, Rm, v205, ⟨by first | decide | omega, by first | decide | omega⟩, ⟨by first | decide | omega, by first | decide | omega⟩, ⟨by first | decide | omega, by first | decide | omega⟩, ⟨by first | decide | omega, by first | decide | omega⟩, ⟨by first | decide | omega, by first | decide | omega⟩, ⟨by first | decide | omega, by first | decide | omega⟩, ⟨by first | decide | omega, by first | decide | omega⟩, ⟨by first | decide | omega, by first | decide | omega⟩, ⟨by first | decide | omega, by first | decide | omega⟩, ⟨by first | decide | omega, by first | decide | omega⟩, ⟨by first | decide | omega, by first | decide | omega⟩, ⟨by first | decide | omega, by first | decide | omega⟩, v206, v207, qsz, hrel⟩ hS hl
    · have hRK := hw_Racks.kept hRK (fun q9 h9 l9 => hk q9 l9 (hw_AWn h9 (by decide) l9))
      have v30 := va_at.kept v30 (hk _ (hw_lt v30) (hw_AWn gx (by decide) (hw_lt v30)))
      have v31 := va_at.kept v31 (hk _ (hw_lt v31) (hw_AWn (hw_RX_13 Rx) (by decide) (hw_lt v31)))
      refine lv_pop hx hb dL_law_1060 rfl ?_
      refine lv_goto (tgt := 1186) hx hb dL_law_1061 (by decide) ?_
      refine W.widen (k := k + 20) (n := n + 80) (by first | omega | (show _ ≤ _; omega)) (by first | omega | (show _ ≤ _; omega)) ?_
      exact hk9 _ _ _ ⟨G1, rx, rm, pnx, pcx, ksx, scx, udm, kym, lom, wkm, dkm, lnm, smm, fim, bem, rkm, rlm, rwm, clm, dgm, fq, la, sz9, fla, fsz, hH, hGe1, wx, wm, gx, gm, Rx, v30, ⟨by first | decide | omega, by first | decide | omega⟩, v31, hRK, Rm, v211, ⟨by first | decide | omega, by first | decide | omega⟩, ⟨by first | decide | omega, by first | decide | omega⟩, ⟨by first | decide | omega, by first | decide | omega⟩, ⟨by first | decide | omega, by first | decide | omega⟩, ⟨by first | decide | omega, by first | decide | omega⟩, ⟨by first | decide | omega, by first | decide | omega⟩, ⟨by first | decide | omega, by first | decide | omega⟩, ⟨by first | decide | omega, by first | decide | omega⟩, ⟨by first | decide | omega, by first | decide | omega⟩, ⟨by first | decide | omega, by first | decide | omega⟩, ⟨by first | decide | omega, by first | decide | omega⟩, ⟨by first | decide | omega, by first | decide | omega⟩, v212, v213, qsz, hrel⟩ hS hl
    · have hRK := hw_Racks.kept hRK (fun q9 h9 l9 => hk q9 l9 (hw_AWn h9 (by decide) l9))
      have v30 := va_at.kept v30 (hk _ (hw_lt v30) (hw_AWn gx (by decide) (hw_lt v30)))
      have v31 := va_at.kept v31 (hk _ (hw_lt v31) (hw_AWn (hw_RX_13 Rx) (by decide) (hw_lt v31)))
      refine lv_pop hx hb dL_law_1060 rfl ?_
      refine lv_goto (tgt := 1186) hx hb dL_law_1061 (by decide) ?_
      refine W.widen (k := k + 20) (n := n + 80) (by first | omega | (show _ ≤ _; omega)) (by first | omega | (show _ ≤ _; omega)) ?_
      exact hk9 _ _ _ ⟨G1, rx, rm, pnx, pcx, ksx, scx, udm, kym, lom, wkm, dkm, lnm, smm, fim, bem, rkm, rlm, rwm, clm, dgm, fq, la, sz9, fla, fsz, hH, hGe1, wx, wm, gx, gm, Rx, v30, ⟨by first | decide | omega, by first | decide | omega⟩, v31, hRK, Rm, v219, ⟨by first | decide | omega, by first | decide | omega⟩, ⟨by first | decide | omega, by first | decide | omega⟩, ⟨by first | decide | omega, by first | decide | omega⟩, ⟨by first | decide | omega, by first | decide | omega⟩, ⟨by first | decide | omega, by first | decide | omega⟩, ⟨by first | decide | omega, by first | decide | omega⟩, ⟨by first | decide | omega, by first | decide | omega⟩, ⟨by first | decide | omega, by first | decide | omega⟩, ⟨by first | decide | omega, by first | decide | omega⟩, ⟨by first | decide | omega, by first | decide | omega⟩, ⟨by first | decide | omega, by first | decide | omega⟩, ⟨by first | decide | omega, by first | decide | omega⟩, v220, v221, qsz, hrel⟩ hS hl
    · have q238i := hw_ieq q238
      have hRK := hw_Racks.kept hRK (fun q9 h9 l9 => hk q9 l9 (hw_AWn h9 (by decide) l9))
      have v30 := va_at.kept v30 (hk _ (hw_lt v30) (hw_AWn gx (by decide) (hw_lt v30)))
      have v31 := va_at.kept v31 (hk _ (hw_lt v31) (hw_AWn (hw_RX_13 Rx) (by decide) (hw_lt v31)))
      refine lv_pop hx hb dL_law_1060 rfl ?_
      refine lv_goto (tgt := 1186) hx hb dL_law_1061 (by decide) ?_
      refine W.widen (k := k + 20) (n := n + 80) (by first | omega | (show _ ≤ _; omega)) (by first | omega | (show _ ≤ _; omega)) ?_
      exact hk9 _ _ _ ⟨G1, rx, rm, pnx, pcx, ksx, scx, udm, kym, lom, wkm, dkm, lnm, smm, fim, bem, rkm, rlm, rwm, clm, dgm, fq, la, sz9, fla, fsz, hH, hGe1, wx, wm, gx, gm, Rx, v30, ⟨by first | decide | omega, by first | decide | omega⟩, v31, hRK, Rm, v229, ⟨by first | decide | omega, by first | decide | omega⟩, ⟨by first | decide | omega, by first | decide | omega⟩, ⟨by first | decide | omega, by first | decide | omega⟩, ⟨by first | decide | omega, by first | decide | omega⟩, ⟨by first | decide | omega, by first | decide | omega⟩, ⟨by first | decide | omega, by first | decide | omega⟩, ⟨by first | decide | omega, by first | decide | omega⟩, ⟨by first | decide | omega, by first | decide | omega⟩, ⟨by first | decide | omega, by first | decide | omega⟩, ⟨by first | decide | omega, by first | decide | omega⟩, ⟨by first | decide | omega, by first | decide | omega⟩, ⟨by first | decide | omega, by first | decide | omega⟩, v230, v231, qsz, hrel⟩ hS hl

