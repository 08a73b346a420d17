set_option maxHeartbeats 40000000 in
set_option maxRecDepth 100000 in
theorem hw_case885 {p : Program} {e : Env} {s : State} {m : MethodId} {below : List Frame} {meth : Method} {c : Code} (l : Launch) {b L : Nat} {xs : Nat → Int32} {D : hw_D} {G : Nat → Nat} {H : Heap} {locs : List Loc} {x mo k n : Nat} {y3 : Int32} {ls : Array Slot} (hL : L ≤ 384) (hy0 : 0 ≤ y3.toInt ∧ y3.toInt ≤ 384) (hy : y3.toInt + 6 ≤ L) (hkc : k + 20 ≤ 600000) (hnc : n + 80 ≤ 7302250) (hx : p.tables.exec = Jvm.exec) (hb : c.code = code) (hr : meth.sig.returnType = ret) (hml : c.maxLocals = 4) (hown : s.vm.findClass R_law = some m.cls) (hts0 : ∀ w ∈ lw_tbl, w.before #[Value.ref b] s = true) (hts : ∀ w ∈ wsL_law, w.before #[Value.ref b] s = true) (hX : va_X b L xs s s.heap) (hbl : b < s.heap.size) (hlocks : meth.locks = false) (hG0 : G = fun _ => 0) (hK : va_K D.1 vwCl (hw_ty D.2.1) s) (hST : hw_ST D.2.2 G s.heap.size s) (hI : hw_I D G s H x mo) (hS : va_S (hw_AW G [1, 2, 3, 4, 5, 6, 7, 8, 9, 10, 11, 12, 13, 14, 15, 16, 17, 18, 19, 20, 21, 22, 23, 24, 25, 26, 27, 28, 29, 30, 31, 32, 40, 42, 44, 45, 46, 48, 49, 50, 51, 53, 55, 58, 59, 67, 68, 69, 70, 71, 72, 73, 74, 75, 76, 77, 78, 79, 80, 81, 82, 83, 84, 101, 102, 103, 104, 105, 106, 107, 108, 109, 127, 128, 129, 132] s.heap.size) s.heap H locs) (hl : lv_has ls 4 [(3, .int y3), (2, .ref mo), (1, .ref x), (0, .ref b)]) (hk9 : ∀ (H1 : Heap) (locs1 : List Loc) (ls1 : Array Slot), hw_I D G s H1 x mo → va_S (hw_AW G [1, 2, 3, 4, 5, 6, 7, 8, 9, 10, 11, 12, 13, 14, 15, 16, 17, 18, 19, 20, 21, 22, 23, 24, 25, 26, 27, 28, 29, 30, 31, 32, 40, 42, 44, 45, 46, 48, 49, 50, 51, 53, 55, 58, 59, 67, 68, 69, 70, 71, 72, 73, 74, 75, 76, 77, 78, 79, 80, 81, 82, 83, 84, 101, 102, 103, 104, 105, 106, 107, 108, 109, 127, 128, 129, 132] s.heap.size) s.heap H1 locs1 → lv_has ls1 4 [(3, .int y3), (2, .ref mo), (1, .ref x), (0, .ref b)] → W p l e room_1 s m #[Value.ref b] below meth c H1 locs1 (k + 20) (n + 80) (lw_Z below #[Value.ref b] s) (F0 m 1187 ls1 [])) : W p l e room_1 s m #[Value.ref b] below meth c H locs k n (lw_Z below #[Value.ref b] s) (F0 m 885 ls []) := by
  have hH0 : hw_HT D G s.heap := fun a h => absurd (by rw [hG0]) h
  have hbA : ¬ (hw_AW G [1, 2, 3, 4, 5, 6, 7, 8, 9, 10, 11, 12, 13, 14, 15, 16, 17, 18, 19, 20, 21, 22, 23, 24, 25, 26, 27, 28, 29, 30, 31, 32, 40, 42, 44, 45, 46, 48, 49, 50, 51, 53, 55, 58, 59, 67, 68, 69, 70, 71, 72, 73, 74, 75, 76, 77, 78, 79, 80, 81, 82, 83, 84, 101, 102, 103, 104, 105, 106, 107, 108, 109, 127, 128, 129, 132] s.heap.size) b := hw_AWn (k := 0) (by rw [hG0]) (by decide) hbl
  have hLi : (Int32.ofNat L).toInt = (L : Int) := nI_toInt (by omega)
  refine hw_I_elim hI ?_
  intro G1 rx rm pnx pcx ksx scx udm kym lom wkm dkm lnm smm fim bem rkm rlm rwm clm dgm fq la sz9 fla fsz th tt fth hH hGe1 wx wm gx gm Rx vx gsc vq hRK Rm vm gm0 gm1 gm2 gm3 gm4 gm5 gm6 gm7 gm8 gm9 gm10 gm11 vla vsz qsz hrel vth hrt
  have hHs := hH0
  have hz24 := hw_hz24 hrel qsz
  have qq := hRK.q
  refine lv_aload_n hx hb dL_law_885 rfl (lv_at hl 2 rfl) ?_
  refine lv_aload_n hx hb dL_law_886 rfl (lv_at hl 3 rfl) ?_
  refine lv_iload_n hx hb dL_law_887 rfl (lv_at hl 0 rfl) ?_
  refine lv_iconst (v := 1) hx hb dL_law_888 (by decide) ?_
  refine lv_iadd hx hb dL_law_889 ?_
  have t1 : (y3 + 1).toInt = y3.toInt + 1 := hw_add rfl rfl (by omega) (by omega)
  refine va_sld hx hb hX hbl hbA hS (hw_in (by omega) (by omega)) dL_law_890 ?_
  refine lv_aload_n hx hb dL_law_891 rfl (lv_at hl 3 rfl) ?_
  refine lv_iload_n hx hb dL_law_892 rfl (lv_at hl 0 rfl) ?_
  refine lv_iconst (v := 2) hx hb dL_law_893 (by decide) ?_
  refine lv_iadd hx hb dL_law_894 ?_
  have t2 : (y3 + 2).toInt = y3.toInt + 2 := hw_add rfl rfl (by omega) (by omega)
  refine va_sld hx hb hX hbl hbA hS (hw_in (by omega) (by omega)) dL_law_895 ?_
  refine lv_aload_n hx hb dL_law_896 rfl (lv_at hl 3 rfl) ?_
  refine lv_iload_n hx hb dL_law_897 rfl (lv_at hl 0 rfl) ?_
  refine lv_iconst (v := 3) hx hb dL_law_898 (by decide) ?_
  refine lv_iadd hx hb dL_law_899 ?_
  have t3 : (y3 + 3).toInt = y3.toInt + 3 := hw_add rfl rfl (by omega) (by omega)
  refine va_sld hx hb hX hbl hbA hS (hw_in (by omega) (by omega)) dL_law_900 ?_
  refine lv_aload_n hx hb dL_law_901 rfl (lv_at hl 3 rfl) ?_
  refine lv_iload_n hx hb dL_law_902 rfl (lv_at hl 0 rfl) ?_
  refine lv_iconst (v := 4) hx hb dL_law_903 (by decide) ?_
  refine lv_iadd hx hb dL_law_904 ?_
  have t4 : (y3 + 4).toInt = y3.toInt + 4 := hw_add rfl rfl (by omega) (by omega)
  refine va_sld hx hb hX hbl hbA hS (hw_in (by omega) (by omega)) dL_law_905 ?_
  refine lv_i2l hx hb dL_law_906 rfl ?_
  refine lv_topl (fun x5 e6 => ?_)
  refine lv_bipush (v := 32) hx hb dL_law_907 (by decide) ?_
  refine lv_lshl hx hb dL_law_909 rfl ?_
  refine lv_topl (fun x7 e8 => ?_)
  refine lv_aload_n hx hb dL_law_910 rfl (lv_at hl 3 rfl) ?_
  refine lv_iload_n hx hb dL_law_911 rfl (lv_at hl 0 rfl) ?_
  refine lv_iconst (v := 5) hx hb dL_law_912 (by decide) ?_
  refine lv_iadd hx hb dL_law_913 ?_
  have t9 : (y3 + 5).toInt = y3.toInt + 5 := hw_add rfl rfl (by omega) (by omega)
  refine va_sld hx hb hX hbl hbA hS (hw_in (by omega) (by omega)) dL_law_914 ?_
  refine lv_i2l hx hb dL_law_915 rfl ?_
  refine lv_topl (fun x10 e11 => ?_)
  refine lv_ldc2 (v := 4294967295) hx hb hown (hts (.constantLong RL 126 (4294967295)) (by decide +kernel)) dL_law_916 ?_
  refine lv_land hx hb dL_law_919 ?_
  refine lv_topl (fun x12 e13 => ?_)
  refine lv_lor hx hb dL_law_920 ?_
  refine lv_topl (fun x14 e15 => ?_)
  refine hw_cM0 (va_runV (As := [.int (xs (y3 + 1).toNatClampNeg), .int (xs (y3 + 2).toNatClampNeg), .int (xs (y3 + 3).toNatClampNeg), .long x14]) (rest := []) ⟨hx, hb, hml, hown, hts⟩ (k3_X11_hang l D G1 x (xs (y3 + 1).toNatClampNeg) (xs (y3 + 2).toNatClampNeg) (xs (y3 + 3).toNatClampNeg) x14 _ th la sz9 tt rx pnx pcx ksx scx fq gx Rx ⟨by first | decide | omega, by first | decide | omega⟩ qq (by first | assumption | decide | omega)) (cwV 4 hts gL_law_X11_hang rfl rfl rfl (by decide +kernel) ⟨Nat.le_of_ble_eq_true rfl, Nat.le_of_ble_eq_true rfl⟩) (hw_pV (hw_rc (q := (RX11, TX11, 14)) hK vx rfl) hH hK hST hS (by decide) (hw_hG hGe1) ⟨vx, vq, hRK⟩) rfl rfl hl.1 rfl (lv_room (Nat.le_of_ble_eq_true rfl)) dL_law_921 ⟨by show _ ≤ 600000; omega, by show _ ≤ 7302250; omega⟩) hS (hw_AWsub (by decide) hGe1 hS.1) (fun v H locs hp hz hk hS => ?_)
  rcases hp with ⟨rfl, hH, hRK, v16, v17, q18⟩ | ⟨rfl, hH, hRK, v19, v20, q21, q22⟩ | ⟨rfl, hH, hRK, v23, v24, q25, q26, q27⟩ | ⟨rfl, hH, hRK, v28, v29, q30, q31, q32, q33⟩ | ⟨rfl, hH, hRK, v34, v35, q36, q37, q38, q39, q40⟩ | ⟨f41, rfl, hH, hRK, v42, v43, q44, q45, q46, q47, q48, q49, q50⟩
  · have vm := va_at.kept vm (hk _ (hw_lt vm) (hw_AWn gm (by decide) (hw_lt vm)))
    have vla := va_at.kept vla (hk _ (hw_lt vla) (hw_AWn (hw_RM_41 Rm) (by decide) (hw_lt vla)))
    have vsz := va_at.kept vsz (hk _ (hw_lt vsz) (hw_AWn (hw_RM_42 Rm) (by decide) (hw_lt vsz)))
    have vth := va_at.kept vth (hk _ (hw_lt vth) (hw_AWn (hw_RM_43 Rm) (by decide) (hw_lt vth)))
    have hr51 : 0 ≤ (xs (y3 + 1).toNatClampNeg).toInt ∧ (xs (y3 + 1).toNatClampNeg).toInt ≤ 3 → ((la (xs (y3 + 1).toNatClampNeg).toNatClampNeg).toInt = -1 ↔ (fsz (xs (y3 + 1).toNatClampNeg).toNatClampNeg).toInt < 0) ∧ ((la (xs (y3 + 1).toNatClampNeg).toNatClampNeg).toInt ≠ -1 → (fla (xs (y3 + 1).toNatClampNeg).toNatClampNeg).toInt = (la (xs (y3 + 1).toNatClampNeg).toNatClampNeg).toInt ∧ (fsz (xs (y3 + 1).toNatClampNeg).toNatClampNeg).toInt = (sz9 (xs (y3 + 1).toNatClampNeg).toNatClampNeg).toInt) := fun h9 => hrel _ (hw_i4 h9)
    refine lv_pop hx hb dL_law_924 rfl ?_
    refine lv_aload_n hx hb dL_law_925 rfl (lv_at hl 1 rfl) ?_
    refine lv_aload_n hx hb dL_law_926 rfl (lv_at hl 3 rfl) ?_
    refine lv_iload_n hx hb dL_law_927 rfl (lv_at hl 0 rfl) ?_
    refine lv_iconst (v := 1) hx hb dL_law_928 (by decide) ?_
    refine lv_iadd hx hb dL_law_929 ?_
    refine va_sld hx hb hX hbl hbA hS (hw_in (by omega) (by omega)) dL_law_930 ?_
    refine lv_aload_n hx hb dL_law_931 rfl (lv_at hl 3 rfl) ?_
    refine lv_iload_n hx hb dL_law_932 rfl (lv_at hl 0 rfl) ?_
    refine lv_iconst (v := 2) hx hb dL_law_933 (by decide) ?_
    refine lv_iadd hx hb dL_law_934 ?_
    refine va_sld hx hb hX hbl hbA hS (hw_in (by omega) (by omega)) dL_law_935 ?_
    refine lv_aload_n hx hb dL_law_936 rfl (lv_at hl 3 rfl) ?_
    refine lv_iload_n hx hb dL_law_937 rfl (lv_at hl 0 rfl) ?_
    refine lv_iconst (v := 3) hx hb dL_law_938 (by decide) ?_
    refine lv_iadd hx hb dL_law_939 ?_
    refine va_sld hx hb hX hbl hbA hS (hw_in (by omega) (by omega)) dL_law_940 ?_
    refine lv_aload_n hx hb dL_law_941 rfl (lv_at hl 3 rfl) ?_
    refine lv_iload_n hx hb dL_law_942 rfl (lv_at hl 0 rfl) ?_
    refine lv_iconst (v := 4) hx hb dL_law_943 (by decide) ?_
    refine lv_iadd hx hb dL_law_944 ?_
    refine va_sld hx hb hX hbl hbA hS (hw_in (by omega) (by omega)) dL_law_945 ?_
    refine lv_i2l hx hb dL_law_946 rfl ?_
    refine lv_topl (fun x52 e53 => ?_)
    have e54 : x5 = x52 := by rw [e6, e53]
    subst e54
    refine lv_bipush (v := 32) hx hb dL_law_947 (by decide) ?_
    refine lv_lshl hx hb dL_law_949 rfl ?_
    refine lv_topl (fun x55 e56 => ?_)
    have e57 : x7 = x55 := by rw [e8, e56]
    subst e57
    refine lv_aload_n hx hb dL_law_950 rfl (lv_at hl 3 rfl) ?_
    refine lv_iload_n hx hb dL_law_951 rfl (lv_at hl 0 rfl) ?_
    refine lv_iconst (v := 5) hx hb dL_law_952 (by decide) ?_
    refine lv_iadd hx hb dL_law_953 ?_
    refine va_sld hx hb hX hbl hbA hS (hw_in (by omega) (by omega)) dL_law_954 ?_
    refine lv_i2l hx hb dL_law_955 rfl ?_
    refine lv_topl (fun x58 e59 => ?_)
    have e60 : x10 = x58 := by rw [e11, e59]
    subst e60
    refine lv_ldc2 (v := 4294967295) hx hb hown (hts (.constantLong RL 126 (4294967295)) (by decide +kernel)) dL_law_956 ?_
    refine lv_land hx hb dL_law_959 ?_
    refine lv_topl (fun x61 e62 => ?_)
    have e63 : x12 = x61 := by rw [e13, e62]
    subst e63
    refine lv_lor hx hb dL_law_960 ?_
    refine lv_topl (fun x64 e65 => ?_)
    have e66 : x14 = x64 := by rw [e15, e65]
    subst e66
    refine hw_cM0 (va_runV (As := [.int (xs (y3 + 1).toNatClampNeg), .int (xs (y3 + 2).toNatClampNeg), .int (xs (y3 + 3).toNatClampNeg), .long x14]) (rest := []) ⟨hx, hb, hml, hown, hts⟩ (k3_X12_hang l D G1 mo (xs (y3 + 1).toNatClampNeg) (xs (y3 + 2).toNatClampNeg) (xs (y3 + 3).toNatClampNeg) x14 _ rm udm kym lom wkm dkm lnm smm fim bem rkm rlm rwm clm dgm fla fsz fth gm Rm ⟨by first | decide | omega, by first | decide | omega⟩ ⟨by first | decide | omega, by first | decide | omega⟩ ⟨by first | decide | omega, by first | decide | omega⟩ ⟨by first | decide | omega, by first | decide | omega⟩ ⟨by first | decide | omega, by first | decide | omega⟩ ⟨by first | decide | omega, by first | decide | omega⟩ ⟨by first | decide | omega, by first | decide | omega⟩ ⟨by first | decide | omega, by first | decide | omega⟩ ⟨by first | decide | omega, by first | decide | omega⟩ ⟨by first | decide | omega, by first | decide | omega⟩ ⟨by first | decide | omega, by first | decide | omega⟩ ⟨by first | decide | omega, by first | decide | omega⟩ qsz) (cwV 4 hts gL_law_X12_hang rfl rfl rfl (by decide +kernel) ⟨Nat.le_of_ble_eq_true rfl, Nat.le_of_ble_eq_true rfl⟩) (hw_pV (hw_rc (q := (RX12, TX12, 45)) hK vm rfl) hH hK hST hS (by decide) (hw_hG hGe1) ⟨vm, vla, vsz, vth⟩) rfl rfl hl.1 rfl (lv_room (Nat.le_of_ble_eq_true rfl)) dL_law_961 ⟨by show _ ≤ 600000; omega, by show _ ≤ 7302250; omega⟩) hS (hw_AWsub (by decide) hGe1 hS.1) (fun v H locs hp hz hk hS => ?_)
    rcases hp with ⟨f67, rfl, hH, v68, v69, v70, v71, q72, q73⟩ | ⟨f74, rfl, hH, v75, v76, v77, v78, q79, q80, q81⟩ | ⟨f82, rfl, hH, v83, v84, v85, v86, q87, q88, q89, q90⟩ | ⟨f91, rfl, hH, v92, v93, v94, v95, q96, q97, q98, q99, q100⟩ | ⟨f101, rfl, hH, v102, v103, v104, v105, q106, q107, q108, q109, q110, q111⟩ | ⟨f112, rfl, hH, v113, v114, v115, v116, q117, q118, q119, q120, q121, q122, q123⟩
    · have hRK := hw_RK3.kept hRK (fun q9 h9 l9 => hk q9 l9 (by rcases h9 with h9 | h9 <;> exact hw_AWn h9 (by decide) l9))
      have v16 := va_at.kept v16 (hk _ (hw_lt v16) (hw_AWn gx (by decide) (hw_lt v16)))
      have v17 := va_at.kept v17 (hk _ (hw_lt v17) (hw_AWn (hw_RX_13 Rx) (by decide) (hw_lt v17)))
      refine lv_pop hx hb dL_law_964 rfl ?_
      refine lv_goto (tgt := 1187) hx hb dL_law_965 (by decide) ?_
      refine W.widen (k := k + 20) (n := n + 80) (by first | omega | (show _ ≤ _; omega)) (by first | omega | (show _ ≤ _; omega)) ?_
      exact hk9 _ _ _ ⟨G1, rx, rm, pnx, pcx, ksx, scx, udm, kym, lom, wkm, dkm, lnm, smm, fim, bem, rkm, rlm, rwm, clm, dgm, fq, la, sz9, fla, fsz, th, tt, f67, hH, hGe1, wx, wm, gx, gm, Rx, v16, ⟨by first | decide | omega, by first | decide | omega⟩, v17, hRK, Rm, v68, ⟨by first | decide | omega, by first | decide | omega⟩, ⟨by first | decide | omega, by first | decide | omega⟩, ⟨by first | decide | omega, by first | decide | omega⟩, ⟨by first | decide | omega, by first | decide | omega⟩, ⟨by first | decide | omega, by first | decide | omega⟩, ⟨by first | decide | omega, by first | decide | omega⟩, ⟨by first | decide | omega, by first | decide | omega⟩, ⟨by first | decide | omega, by first | decide | omega⟩, ⟨by first | decide | omega, by first | decide | omega⟩, ⟨by first | decide | omega, by first | decide | omega⟩, ⟨by first | decide | omega, by first | decide | omega⟩, ⟨by first | decide | omega, by first | decide | omega⟩, v69, v70, qsz, hrel, v71, (by rw [q73]; exact hrt)⟩ hS hl
    · have hRK := hw_RK3.kept hRK (fun q9 h9 l9 => hk q9 l9 (by rcases h9 with h9 | h9 <;> exact hw_AWn h9 (by decide) l9))
      have v16 := va_at.kept v16 (hk _ (hw_lt v16) (hw_AWn gx (by decide) (hw_lt v16)))
      have v17 := va_at.kept v17 (hk _ (hw_lt v17) (hw_AWn (hw_RX_13 Rx) (by decide) (hw_lt v17)))
      refine lv_pop hx hb dL_law_964 rfl ?_
      refine lv_goto (tgt := 1187) hx hb dL_law_965 (by decide) ?_
      refine W.widen (k := k + 20) (n := n + 80) (by first | omega | (show _ ≤ _; omega)) (by first | omega | (show _ ≤ _; omega)) ?_
      exact hk9 _ _ _ ⟨G1, rx, rm, pnx, pcx, ksx, scx, udm, kym, lom, wkm, dkm, lnm, smm, fim, bem, rkm, rlm, rwm, clm, dgm, fq, la, sz9, fla, fsz, th, tt, f74, hH, hGe1, wx, wm, gx, gm, Rx, v16, ⟨by first | decide | omega, by first | decide | omega⟩, v17, hRK, Rm, v75, ⟨by first | decide | omega, by first | decide | omega⟩, ⟨by first | decide | omega, by first | decide | omega⟩, ⟨by first | decide | omega, by first | decide | omega⟩, ⟨by first | decide | omega, by first | decide | omega⟩, ⟨by first | decide | omega, by first | decide | omega⟩, ⟨by first | decide | omega, by first | decide | omega⟩, ⟨by first | decide | omega, by first | decide | omega⟩, ⟨by first | decide | omega, by first | decide | omega⟩, ⟨by first | decide | omega, by first | decide | omega⟩, ⟨by first | decide | omega, by first | decide | omega⟩, ⟨by first | decide | omega, by first | decide | omega⟩, ⟨by first | decide | omega, by first | decide | omega⟩, v76, v77, qsz, hrel, v78, (by rw [q81]; exact hrt)⟩ hS hl
    · have hRK := hw_RK3.kept hRK (fun q9 h9 l9 => hk q9 l9 (by rcases h9 with h9 | h9 <;> exact hw_AWn h9 (by decide) l9))
      have v16 := va_at.kept v16 (hk _ (hw_lt v16) (hw_AWn gx (by decide) (hw_lt v16)))
      have v17 := va_at.kept v17 (hk _ (hw_lt v17) (hw_AWn (hw_RX_13 Rx) (by decide) (hw_lt v17)))
      refine lv_pop hx hb dL_law_964 rfl ?_
      refine lv_goto (tgt := 1187) hx hb dL_law_965 (by decide) ?_
      refine W.widen (k := k + 20) (n := n + 80) (by first | omega | (show _ ≤ _; omega)) (by first | omega | (show _ ≤ _; omega)) ?_
      exact hk9 _ _ _ ⟨G1, rx, rm, pnx, pcx, ksx, scx, udm, kym, lom, wkm, dkm, lnm, smm, fim, bem, rkm, rlm, rwm, clm, dgm, fq, la, sz9, fla, fsz, th, tt, f82, hH, hGe1, wx, wm, gx, gm, Rx, v16, ⟨by first | decide | omega, by first | decide | omega⟩, v17, hRK, Rm, v83, ⟨by first | decide | omega, by first | decide | omega⟩, ⟨by first | decide | omega, by first | decide | omega⟩, ⟨by first | decide | omega, by first | decide | omega⟩, ⟨by first | decide | omega, by first | decide | omega⟩, ⟨by first | decide | omega, by first | decide | omega⟩, ⟨by first | decide | omega, by first | decide | omega⟩, ⟨by first | decide | omega, by first | decide | omega⟩, ⟨by first | decide | omega, by first | decide | omega⟩, ⟨by first | decide | omega, by first | decide | omega⟩, ⟨by first | decide | omega, by first | decide | omega⟩, ⟨by first | decide | omega, by first | decide | omega⟩, ⟨by first | decide | omega, by first | decide | omega⟩, v84, v85, qsz, hrel, v86, (by rw [q90]; exact hrt)⟩ hS hl
    · have hRK := hw_RK3.kept hRK (fun q9 h9 l9 => hk q9 l9 (by rcases h9 with h9 | h9 <;> exact hw_AWn h9 (by decide) l9))
      have v16 := va_at.kept v16 (hk _ (hw_lt v16) (hw_AWn gx (by decide) (hw_lt v16)))
      have v17 := va_at.kept v17 (hk _ (hw_lt v17) (hw_AWn (hw_RX_13 Rx) (by decide) (hw_lt v17)))
      refine lv_pop hx hb dL_law_964 rfl ?_
      refine lv_goto (tgt := 1187) hx hb dL_law_965 (by decide) ?_
      refine W.widen (k := k + 20) (n := n + 80) (by first | omega | (show _ ≤ _; omega)) (by first | omega | (show _ ≤ _; omega)) ?_
      exact hk9 _ _ _ ⟨G1, rx, rm, pnx, pcx, ksx, scx, udm, kym, lom, wkm, dkm, lnm, smm, fim, bem, rkm, rlm, rwm, clm, dgm, fq, la, sz9, fla, fsz, th, tt, f91, hH, hGe1, wx, wm, gx, gm, Rx, v16, ⟨by first | decide | omega, by first | decide | omega⟩, v17, hRK, Rm, v92, ⟨by first | decide | omega, by first | decide | omega⟩, ⟨by first | decide | omega, by first | decide | omega⟩, ⟨by first | decide | omega, by first | decide | omega⟩, ⟨by first | decide | omega, by first | decide | omega⟩, ⟨by first | decide | omega, by first | decide | omega⟩, ⟨by first | decide | omega, by first | decide | omega⟩, ⟨by first | decide | omega, by first | decide | omega⟩, ⟨by first | decide | omega, by first | decide | omega⟩, ⟨by first | decide | omega, by first | decide | omega⟩, ⟨by first | decide | omega, by first | decide | omega⟩, ⟨by first | decide | omega, by first | decide | omega⟩, ⟨by first | decide | omega, by first | decide | omega⟩, v93, v94, qsz, hrel, v95, (by rw [q100]; exact hrt)⟩ hS hl
    · have hRK := hw_RK3.kept hRK (fun q9 h9 l9 => hk q9 l9 (by rcases h9 with h9 | h9 <;> exact hw_AWn h9 (by decide) l9))
      have v16 := va_at.kept v16 (hk _ (hw_lt v16) (hw_AWn gx (by decide) (hw_lt v16)))
      have v17 := va_at.kept v17 (hk _ (hw_lt v17) (hw_AWn (hw_RX_13 Rx) (by decide) (hw_lt v17)))
      refine lv_pop hx hb dL_law_964 rfl ?_
      refine lv_goto (tgt := 1187) hx hb dL_law_965 (by decide) ?_
      refine W.widen (k := k + 20) (n := n + 80) (by first | omega | (show _ ≤ _; omega)) (by first | omega | (show _ ≤ _; omega)) ?_
      exact hk9 _ _ _ ⟨G1, rx, rm, pnx, pcx, ksx, scx, udm, kym, lom, wkm, dkm, lnm, smm, fim, bem, rkm, rlm, rwm, clm, dgm, fq, la, sz9, fla, fsz, th, tt, f101, hH, hGe1, wx, wm, gx, gm, Rx, v16, ⟨by first | decide | omega, by first | decide | omega⟩, v17, hRK, Rm, v102, ⟨by first | decide | omega, by first | decide | omega⟩, ⟨by first | decide | omega, by first | decide | omega⟩, ⟨by first | decide | omega, by first | decide | omega⟩, ⟨by first | decide | omega, by first | decide | omega⟩, ⟨by first | decide | omega, by first | decide | omega⟩, ⟨by first | decide | omega, by first | decide | omega⟩, ⟨by first | decide | omega, by first | decide | omega⟩, ⟨by first | decide | omega, by first | decide | omega⟩, ⟨by first | decide | omega, by first | decide | omega⟩, ⟨by first | decide | omega, by first | decide | omega⟩, ⟨by first | decide | omega, by first | decide | omega⟩, ⟨by first | decide | omega, by first | decide | omega⟩, v103, v104, qsz, hrel, v105, (by rw [q111]; exact hrt)⟩ hS hl
    · have hRK := hw_RK3.kept hRK (fun q9 h9 l9 => hk q9 l9 (by rcases h9 with h9 | h9 <;> exact hw_AWn h9 (by decide) l9))
      have v16 := va_at.kept v16 (hk _ (hw_lt v16) (hw_AWn gx (by decide) (hw_lt v16)))
      have v17 := va_at.kept v17 (hk _ (hw_lt v17) (hw_AWn (hw_RX_13 Rx) (by decide) (hw_lt v17)))
      refine lv_pop hx hb dL_law_964 rfl ?_
      refine lv_goto (tgt := 1187) hx hb dL_law_965 (by decide) ?_
      refine W.widen (k := k + 20) (n := n + 80) (by first | omega | (show _ ≤ _; omega)) (by first | omega | (show _ ≤ _; omega)) ?_
      exact hk9 _ _ _ ⟨G1, rx, rm, pnx, pcx, ksx, scx, udm, kym, lom, wkm, dkm, lnm, smm, fim, bem, rkm, rlm, rwm, clm, dgm, fq, la, sz9, fla, fsz, th, tt, f112, hH, hGe1, wx, wm, gx, gm, Rx, v16, ⟨by first | decide | omega, by first | decide | omega⟩, v17, hRK, Rm, v113, ⟨by first | decide | omega, by first | decide | omega⟩, ⟨by first | decide | omega, by first | decide | omega⟩, ⟨by first | decide | omega, by first | decide | omega⟩, ⟨by first | decide | omega, by first | decide | omega⟩, ⟨by first | decide | omega, by first | decide | omega⟩, ⟨by first | decide | omega, by first | decide | omega⟩, ⟨by first | decide | omega, by first | decide | omega⟩, ⟨by first | decide | omega, by first | decide | omega⟩, ⟨by first | decide | omega, by first | decide | omega⟩, ⟨by first | decide | omega, by first | decide | omega⟩, ⟨by first | decide | omega, by first | decide | omega⟩, ⟨by first | decide | omega, by first | decide | omega⟩, v114, v115, qsz, hrel, v116, (by exfalso; omega)⟩ hS hl
  · have vm := va_at.kept vm (hk _ (hw_lt vm) (hw_AWn gm (by decide) (hw_lt vm)))
    have vla := va_at.kept vla (hk _ (hw_lt vla) (hw_AWn (hw_RM_41 Rm) (by decide) (hw_lt vla)))
    have vsz := va_at.kept vsz (hk _ (hw_lt vsz) (hw_AWn (hw_RM_42 Rm) (by decide) (hw_lt vsz)))
    have vth := va_at.kept vth (hk _ (hw_lt vth) (hw_AWn (hw_RM_43 Rm) (by decide) (hw_lt vth)))
    have hr124 : 0 ≤ (xs (y3 + 1).toNatClampNeg).toInt ∧ (xs (y3 + 1).toNatClampNeg).toInt ≤ 3 → ((la (xs (y3 + 1).toNatClampNeg).toNatClampNeg).toInt = -1 ↔ (fsz (xs (y3 + 1).toNatClampNeg).toNatClampNeg).toInt < 0) ∧ ((la (xs (y3 + 1).toNatClampNeg).toNatClampNeg).toInt ≠ -1 → (fla (xs (y3 + 1).toNatClampNeg).toNatClampNeg).toInt = (la (xs (y3 + 1).toNatClampNeg).toNatClampNeg).toInt ∧ (fsz (xs (y3 + 1).toNatClampNeg).toNatClampNeg).toInt = (sz9 (xs (y3 + 1).toNatClampNeg).toNatClampNeg).toInt) := fun h9 => hrel _ (hw_i4 h9)
    refine lv_pop hx hb dL_law_924 rfl ?_
    refine lv_aload_n hx hb dL_law_925 rfl (lv_at hl 1 rfl) ?_
    refine lv_aload_n hx hb dL_law_926 rfl (lv_at hl 3 rfl) ?_
    refine lv_iload_n hx hb dL_law_927 rfl (lv_at hl 0 rfl) ?_
    refine lv_iconst (v := 1) hx hb dL_law_928 (by decide) ?_
    refine lv_iadd hx hb dL_law_929 ?_
    refine va_sld hx hb hX hbl hbA hS (hw_in (by omega) (by omega)) dL_law_930 ?_
    refine lv_aload_n hx hb dL_law_931 rfl (lv_at hl 3 rfl) ?_
    refine lv_iload_n hx hb dL_law_932 rfl (lv_at hl 0 rfl) ?_
    refine lv_iconst (v := 2) hx hb dL_law_933 (by decide) ?_
    refine lv_iadd hx hb dL_law_934 ?_
    refine va_sld hx hb hX hbl hbA hS (hw_in (by omega) (by omega)) dL_law_935 ?_
    refine lv_aload_n hx hb dL_law_936 rfl (lv_at hl 3 rfl) ?_
    refine lv_iload_n hx hb dL_law_937 rfl (lv_at hl 0 rfl) ?_
    refine lv_iconst (v := 3) hx hb dL_law_938 (by decide) ?_
    refine lv_iadd hx hb dL_law_939 ?_
    refine va_sld hx hb hX hbl hbA hS (hw_in (by omega) (by omega)) dL_law_940 ?_
    refine lv_aload_n hx hb dL_law_941 rfl (lv_at hl 3 rfl) ?_
    refine lv_iload_n hx hb dL_law_942 rfl (lv_at hl 0 rfl) ?_
    refine lv_iconst (v := 4) hx hb dL_law_943 (by decide) ?_
    refine lv_iadd hx hb dL_law_944 ?_
    refine va_sld hx hb hX hbl hbA hS (hw_in (by omega) (by omega)) dL_law_945 ?_
    refine lv_i2l hx hb dL_law_946 rfl ?_
    refine lv_topl (fun x125 e126 => ?_)
    have e127 : x5 = x125 := by rw [e6, e126]
    subst e127
    refine lv_bipush (v := 32) hx hb dL_law_947 (by decide) ?_
    refine lv_lshl hx hb dL_law_949 rfl ?_
    refine lv_topl (fun x128 e129 => ?_)
    have e130 : x7 = x128 := by rw [e8, e129]
    subst e130
    refine lv_aload_n hx hb dL_law_950 rfl (lv_at hl 3 rfl) ?_
    refine lv_iload_n hx hb dL_law_951 rfl (lv_at hl 0 rfl) ?_
    refine lv_iconst (v := 5) hx hb dL_law_952 (by decide) ?_
    refine lv_iadd hx hb dL_law_953 ?_
    refine va_sld hx hb hX hbl hbA hS (hw_in (by omega) (by omega)) dL_law_954 ?_
    refine lv_i2l hx hb dL_law_955 rfl ?_
    refine lv_topl (fun x131 e132 => ?_)
    have e133 : x10 = x131 := by rw [e11, e132]
    subst e133
    refine lv_ldc2 (v := 4294967295) hx hb hown (hts (.constantLong RL 126 (4294967295)) (by decide +kernel)) dL_law_956 ?_
    refine lv_land hx hb dL_law_959 ?_
    refine lv_topl (fun x134 e135 => ?_)
    have e136 : x12 = x134 := by rw [e13, e135]
    subst e136
    refine lv_lor hx hb dL_law_960 ?_
    refine lv_topl (fun x137 e138 => ?_)
    have e139 : x14 = x137 := by rw [e15, e138]
    subst e139
    refine hw_cM0 (va_runV (As := [.int (xs (y3 + 1).toNatClampNeg), .int (xs (y3 + 2).toNatClampNeg), .int (xs (y3 + 3).toNatClampNeg), .long x14]) (rest := []) ⟨hx, hb, hml, hown, hts⟩ (k3_X12_hang l D G1 mo (xs (y3 + 1).toNatClampNeg) (xs (y3 + 2).toNatClampNeg) (xs (y3 + 3).toNatClampNeg) x14 _ rm udm kym lom wkm dkm lnm smm fim bem rkm rlm rwm clm dgm fla fsz fth gm Rm ⟨by first | decide | omega, by first | decide | omega⟩ ⟨by first | decide | omega, by first | decide | omega⟩ ⟨by first | decide | omega, by first | decide | omega⟩ ⟨by first | decide | omega, by first | decide | omega⟩ ⟨by first | decide | omega, by first | decide | omega⟩ ⟨by first | decide | omega, by first | decide | omega⟩ ⟨by first | decide | omega, by first | decide | omega⟩ ⟨by first | decide | omega, by first | decide | omega⟩ ⟨by first | decide | omega, by first | decide | omega⟩ ⟨by first | decide | omega, by first | decide | omega⟩ ⟨by first | decide | omega, by first | decide | omega⟩ ⟨by first | decide | omega, by first | decide | omega⟩ qsz) (cwV 4 hts gL_law_X12_hang rfl rfl rfl (by decide +kernel) ⟨Nat.le_of_ble_eq_true rfl, Nat.le_of_ble_eq_true rfl⟩) (hw_pV (hw_rc (q := (RX12, TX12, 45)) hK vm rfl) hH hK hST hS (by decide) (hw_hG hGe1) ⟨vm, vla, vsz, vth⟩) rfl rfl hl.1 rfl (lv_room (Nat.le_of_ble_eq_true rfl)) dL_law_961 ⟨by show _ ≤ 600000; omega, by show _ ≤ 7302250; omega⟩) hS (hw_AWsub (by decide) hGe1 hS.1) (fun v H locs hp hz hk hS => ?_)
    rcases hp with ⟨f140, rfl, hH, v141, v142, v143, v144, q145, q146⟩ | ⟨f147, rfl, hH, v148, v149, v150, v151, q152, q153, q154⟩ | ⟨f155, rfl, hH, v156, v157, v158, v159, q160, q161, q162, q163⟩ | ⟨f164, rfl, hH, v165, v166, v167, v168, q169, q170, q171, q172, q173⟩ | ⟨f174, rfl, hH, v175, v176, v177, v178, q179, q180, q181, q182, q183, q184⟩ | ⟨f185, rfl, hH, v186, v187, v188, v189, q190, q191, q192, q193, q194, q195, q196⟩
    · have hRK := hw_RK3.kept hRK (fun q9 h9 l9 => hk q9 l9 (by rcases h9 with h9 | h9 <;> exact hw_AWn h9 (by decide) l9))
      have v19 := va_at.kept v19 (hk _ (hw_lt v19) (hw_AWn gx (by decide) (hw_lt v19)))
      have v20 := va_at.kept v20 (hk _ (hw_lt v20) (hw_AWn (hw_RX_13 Rx) (by decide) (hw_lt v20)))
      refine lv_pop hx hb dL_law_964 rfl ?_
      refine lv_goto (tgt := 1187) hx hb dL_law_965 (by decide) ?_
      refine W.widen (k := k + 20) (n := n + 80) (by first | omega | (show _ ≤ _; omega)) (by first | omega | (show _ ≤ _; omega)) ?_
      exact hk9 _ _ _ ⟨G1, rx, rm, pnx, pcx, ksx, scx, udm, kym, lom, wkm, dkm, lnm, smm, fim, bem, rkm, rlm, rwm, clm, dgm, fq, la, sz9, fla, fsz, th, tt, f140, hH, hGe1, wx, wm, gx, gm, Rx, v19, ⟨by first | decide | omega, by first | decide | omega⟩, v20, hRK, Rm, v141, ⟨by first | decide | omega, by first | decide | omega⟩, ⟨by first | decide | omega, by first | decide | omega⟩, ⟨by first | decide | omega, by first | decide | omega⟩, ⟨by first | decide | omega, by first | decide | omega⟩, ⟨by first | decide | omega, by first | decide | omega⟩, ⟨by first | decide | omega, by first | decide | omega⟩, ⟨by first | decide | omega, by first | decide | omega⟩, ⟨by first | decide | omega, by first | decide | omega⟩, ⟨by first | decide | omega, by first | decide | omega⟩, ⟨by first | decide | omega, by first | decide | omega⟩, ⟨by first | decide | omega, by first | decide | omega⟩, ⟨by first | decide | omega, by first | decide | omega⟩, v142, v143, qsz, hrel, v144, (by rw [q146]; exact hrt)⟩ hS hl
    · have hRK := hw_RK3.kept hRK (fun q9 h9 l9 => hk q9 l9 (by rcases h9 with h9 | h9 <;> exact hw_AWn h9 (by decide) l9))
      have v19 := va_at.kept v19 (hk _ (hw_lt v19) (hw_AWn gx (by decide) (hw_lt v19)))
      have v20 := va_at.kept v20 (hk _ (hw_lt v20) (hw_AWn (hw_RX_13 Rx) (by decide) (hw_lt v20)))
      refine lv_pop hx hb dL_law_964 rfl ?_
      refine lv_goto (tgt := 1187) hx hb dL_law_965 (by decide) ?_
      refine W.widen (k := k + 20) (n := n + 80) (by first | omega | (show _ ≤ _; omega)) (by first | omega | (show _ ≤ _; omega)) ?_
      exact hk9 _ _ _ ⟨G1, rx, rm, pnx, pcx, ksx, scx, udm, kym, lom, wkm, dkm, lnm, smm, fim, bem, rkm, rlm, rwm, clm, dgm, fq, la, sz9, fla, fsz, th, tt, f147, hH, hGe1, wx, wm, gx, gm, Rx, v19, ⟨by first | decide | omega, by first | decide | omega⟩, v20, hRK, Rm, v148, ⟨by first | decide | omega, by first | decide | omega⟩, ⟨by first | decide | omega, by first | decide | omega⟩, ⟨by first | decide | omega, by first | decide | omega⟩, ⟨by first | decide | omega, by first | decide | omega⟩, ⟨by first | decide | omega, by first | decide | omega⟩, ⟨by first | decide | omega, by first | decide | omega⟩, ⟨by first | decide | omega, by first | decide | omega⟩, ⟨by first | decide | omega, by first | decide | omega⟩, ⟨by first | decide | omega, by first | decide | omega⟩, ⟨by first | decide | omega, by first | decide | omega⟩, ⟨by first | decide | omega, by first | decide | omega⟩, ⟨by first | decide | omega, by first | decide | omega⟩, v149, v150, qsz, hrel, v151, (by rw [q154]; exact hrt)⟩ hS hl
    · have hRK := hw_RK3.kept hRK (fun q9 h9 l9 => hk q9 l9 (by rcases h9 with h9 | h9 <;> exact hw_AWn h9 (by decide) l9))
      have v19 := va_at.kept v19 (hk _ (hw_lt v19) (hw_AWn gx (by decide) (hw_lt v19)))
      have v20 := va_at.kept v20 (hk _ (hw_lt v20) (hw_AWn (hw_RX_13 Rx) (by decide) (hw_lt v20)))
      refine lv_pop hx hb dL_law_964 rfl ?_
      refine lv_goto (tgt := 1187) hx hb dL_law_965 (by decide) ?_
      refine W.widen (k := k + 20) (n := n + 80) (by first | omega | (show _ ≤ _; omega)) (by first | omega | (show _ ≤ _; omega)) ?_
      exact hk9 _ _ _ ⟨G1, rx, rm, pnx, pcx, ksx, scx, udm, kym, lom, wkm, dkm, lnm, smm, fim, bem, rkm, rlm, rwm, clm, dgm, fq, la, sz9, fla, fsz, th, tt, f155, hH, hGe1, wx, wm, gx, gm, Rx, v19, ⟨by first | decide | omega, by first | decide | omega⟩, v20, hRK, Rm, v156, ⟨by first | decide | omega, by first | decide | omega⟩, ⟨by first | decide | omega, by first | decide | omega⟩, ⟨by first | decide | omega, by first | decide | omega⟩, ⟨by first | decide | omega, by first | decide | omega⟩, ⟨by first | decide | omega, by first | decide | omega⟩, ⟨by first | decide | omega, by first | decide | omega⟩, ⟨by first | decide | omega, by first | decide | omega⟩, ⟨by first | decide | omega, by first | decide | omega⟩, ⟨by first | decide | omega, by first | decide | omega⟩, ⟨by first | decide | omega, by first | decide | omega⟩, ⟨by first | decide | omega, by first | decide | omega⟩, ⟨by first | decide | omega, by first | decide | omega⟩, v157, v158, qsz, hrel, v159, (by rw [q163]; exact hrt)⟩ hS hl
    · have hRK := hw_RK3.kept hRK (fun q9 h9 l9 => hk q9 l9 (by rcases h9 with h9 | h9 <;> exact hw_AWn h9 (by decide) l9))
      have v19 := va_at.kept v19 (hk _ (hw_lt v19) (hw_AWn gx (by decide) (hw_lt v19)))
      have v20 := va_at.kept v20 (hk _ (hw_lt v20) (hw_AWn (hw_RX_13 Rx) (by decide) (hw_lt v20)))
      refine lv_pop hx hb dL_law_964 rfl ?_
      refine lv_goto (tgt := 1187) hx hb dL_law_965 (by decide) ?_
      refine W.widen (k := k + 20) (n := n + 80) (by first | omega | (show _ ≤ _; omega)) (by first | omega | (show _ ≤ _; omega)) ?_
      exact hk9 _ _ _ ⟨G1, rx, rm, pnx, pcx, ksx, scx, udm, kym, lom, wkm, dkm, lnm, smm, fim, bem, rkm, rlm, rwm, clm, dgm, fq, la, sz9, fla, fsz, th, tt, f164, hH, hGe1, wx, wm, gx, gm, Rx, v19, ⟨by first | decide | omega, by first | decide | omega⟩, v20, hRK, Rm, v165, ⟨by first | decide | omega, by first | decide | omega⟩, ⟨by first | decide | omega, by first | decide | omega⟩, ⟨by first | decide | omega, by first | decide | omega⟩, ⟨by first | decide | omega, by first | decide | omega⟩, ⟨by first | decide | omega, by first | decide | omega⟩, ⟨by first | decide | omega, by first | decide | omega⟩, ⟨by first | decide | omega, by first | decide | omega⟩, ⟨by first | decide | omega, by first | decide | omega⟩, ⟨by first | decide | omega, by first | decide | omega⟩, ⟨by first | decide | omega, by first | decide | omega⟩, ⟨by first | decide | omega, by first | decide | omega⟩, ⟨by first | decide | omega, by first | decide | omega⟩, v166, v167, qsz, hrel, v168, (by rw [q173]; exact hrt)⟩ hS hl
    · have hRK := hw_RK3.kept hRK (fun q9 h9 l9 => hk q9 l9 (by rcases h9 with h9 | h9 <;> exact hw_AWn h9 (by decide) l9))
      have v19 := va_at.kept v19 (hk _ (hw_lt v19) (hw_AWn gx (by decide) (hw_lt v19)))
      have v20 := va_at.kept v20 (hk _ (hw_lt v20) (hw_AWn (hw_RX_13 Rx) (by decide) (hw_lt v20)))
      refine lv_pop hx hb dL_law_964 rfl ?_
      refine lv_goto (tgt := 1187) hx hb dL_law_965 (by decide) ?_
      refine W.widen (k := k + 20) (n := n + 80) (by first | omega | (show _ ≤ _; omega)) (by first | omega | (show _ ≤ _; omega)) ?_
      exact hk9 _ _ _ ⟨G1, rx, rm, pnx, pcx, ksx, scx, udm, kym, lom, wkm, dkm, lnm, smm, fim, bem, rkm, rlm, rwm, clm, dgm, fq, la, sz9, fla, fsz, th, tt, f174, hH, hGe1, wx, wm, gx, gm, Rx, v19, ⟨by first | decide | omega, by first | decide | omega⟩, v20, hRK, Rm, v175, ⟨by first | decide | omega, by first | decide | omega⟩, ⟨by first | decide | omega, by first | decide | omega⟩, ⟨by first | decide | omega, by first | decide | omega⟩, ⟨by first | decide | omega, by first | decide | omega⟩, ⟨by first | decide | omega, by first | decide | omega⟩, ⟨by first | decide | omega, by first | decide | omega⟩, ⟨by first | decide | omega, by first | decide | omega⟩, ⟨by first | decide | omega, by first | decide | omega⟩, ⟨by first | decide | omega, by first | decide | omega⟩, ⟨by first | decide | omega, by first | decide | omega⟩, ⟨by first | decide | omega, by first | decide | omega⟩, ⟨by first | decide | omega, by first | decide | omega⟩, v176, v177, qsz, hrel, v178, (by rw [q184]; exact hrt)⟩ hS hl
    · have hRK := hw_RK3.kept hRK (fun q9 h9 l9 => hk q9 l9 (by rcases h9 with h9 | h9 <;> exact hw_AWn h9 (by decide) l9))
      have v19 := va_at.kept v19 (hk _ (hw_lt v19) (hw_AWn gx (by decide) (hw_lt v19)))
      have v20 := va_at.kept v20 (hk _ (hw_lt v20) (hw_AWn (hw_RX_13 Rx) (by decide) (hw_lt v20)))
      refine lv_pop hx hb dL_law_964 rfl ?_
      refine lv_goto (tgt := 1187) hx hb dL_law_965 (by decide) ?_
      refine W.widen (k := k + 20) (n := n + 80) (by first | omega | (show _ ≤ _; omega)) (by first | omega | (show _ ≤ _; omega)) ?_
      exact hk9 _ _ _ ⟨G1, rx, rm, pnx, pcx, ksx, scx, udm, kym, lom, wkm, dkm, lnm, smm, fim, bem, rkm, rlm, rwm, clm, dgm, fq, la, sz9, fla, fsz, th, tt, f185, hH, hGe1, wx, wm, gx, gm, Rx, v19, ⟨by first | decide | omega, by first | decide | omega⟩, v20, hRK, Rm, v186, ⟨by first | decide | omega, by first | decide | omega⟩, ⟨by first | decide | omega, by first | decide | omega⟩, ⟨by first | decide | omega, by first | decide | omega⟩, ⟨by first | decide | omega, by first | decide | omega⟩, ⟨by first | decide | omega, by first | decide | omega⟩, ⟨by first | decide | omega, by first | decide | omega⟩, ⟨by first | decide | omega, by first | decide | omega⟩, ⟨by first | decide | omega, by first | decide | omega⟩, ⟨by first | decide | omega, by first | decide | omega⟩, ⟨by first | decide | omega, by first | decide | omega⟩, ⟨by first | decide | omega, by first | decide | omega⟩, ⟨by first | decide | omega, by first | decide | omega⟩, v187, v188, qsz, hrel, v189, (by exfalso; omega)⟩ hS hl
  · have vm := va_at.kept vm (hk _ (hw_lt vm) (hw_AWn gm (by decide) (hw_lt vm)))
    have vla := va_at.kept vla (hk _ (hw_lt vla) (hw_AWn (hw_RM_41 Rm) (by decide) (hw_lt vla)))
    have vsz := va_at.kept vsz (hk _ (hw_lt vsz) (hw_AWn (hw_RM_42 Rm) (by decide) (hw_lt vsz)))
    have vth := va_at.kept vth (hk _ (hw_lt vth) (hw_AWn (hw_RM_43 Rm) (by decide) (hw_lt vth)))
    have hr197 : 0 ≤ (xs (y3 + 1).toNatClampNeg).toInt ∧ (xs (y3 + 1).toNatClampNeg).toInt ≤ 3 → ((la (xs (y3 + 1).toNatClampNeg).toNatClampNeg).toInt = -1 ↔ (fsz (xs (y3 + 1).toNatClampNeg).toNatClampNeg).toInt < 0) ∧ ((la (xs (y3 + 1).toNatClampNeg).toNatClampNeg).toInt ≠ -1 → (fla (xs (y3 + 1).toNatClampNeg).toNatClampNeg).toInt = (la (xs (y3 + 1).toNatClampNeg).toNatClampNeg).toInt ∧ (fsz (xs (y3 + 1).toNatClampNeg).toNatClampNeg).toInt = (sz9 (xs (y3 + 1).toNatClampNeg).toNatClampNeg).toInt) := fun h9 => hrel _ (hw_i4 h9)
    refine lv_pop hx hb dL_law_924 rfl ?_
    refine lv_aload_n hx hb dL_law_925 rfl (lv_at hl 1 rfl) ?_
    refine lv_aload_n hx hb dL_law_926 rfl (lv_at hl 3 rfl) ?_
    refine lv_iload_n hx hb dL_law_927 rfl (lv_at hl 0 rfl) ?_
    refine lv_iconst (v := 1) hx hb dL_law_928 (by decide) ?_
    refine lv_iadd hx hb dL_law_929 ?_
    refine va_sld hx hb hX hbl hbA hS (hw_in (by omega) (by omega)) dL_law_930 ?_
    refine lv_aload_n hx hb dL_law_931 rfl (lv_at hl 3 rfl) ?_
    refine lv_iload_n hx hb dL_law_932 rfl (lv_at hl 0 rfl) ?_
    refine lv_iconst (v := 2) hx hb dL_law_933 (by decide) ?_
    refine lv_iadd hx hb dL_law_934 ?_
    refine va_sld hx hb hX hbl hbA hS (hw_in (by omega) (by omega)) dL_law_935 ?_
    refine lv_aload_n hx hb dL_law_936 rfl (lv_at hl 3 rfl) ?_
    refine lv_iload_n hx hb dL_law_937 rfl (lv_at hl 0 rfl) ?_
    refine lv_iconst (v := 3) hx hb dL_law_938 (by decide) ?_
    refine lv_iadd hx hb dL_law_939 ?_
    refine va_sld hx hb hX hbl hbA hS (hw_in (by omega) (by omega)) dL_law_940 ?_
    refine lv_aload_n hx hb dL_law_941 rfl (lv_at hl 3 rfl) ?_
    refine lv_iload_n hx hb dL_law_942 rfl (lv_at hl 0 rfl) ?_
    refine lv_iconst (v := 4) hx hb dL_law_943 (by decide) ?_
    refine lv_iadd hx hb dL_law_944 ?_
    refine va_sld hx hb hX hbl hbA hS (hw_in (by omega) (by omega)) dL_law_945 ?_
    refine lv_i2l hx hb dL_law_946 rfl ?_
    refine lv_topl (fun x198 e199 => ?_)
    have e200 : x5 = x198 := by rw [e6, e199]
    subst e200
    refine lv_bipush (v := 32) hx hb dL_law_947 (by decide) ?_
    refine lv_lshl hx hb dL_law_949 rfl ?_
    refine lv_topl (fun x201 e202 => ?_)
    have e203 : x7 = x201 := by rw [e8, e202]
    subst e203
    refine lv_aload_n hx hb dL_law_950 rfl (lv_at hl 3 rfl) ?_
    refine lv_iload_n hx hb dL_law_951 rfl (lv_at hl 0 rfl) ?_
    refine lv_iconst (v := 5) hx hb dL_law_952 (by decide) ?_
    refine lv_iadd hx hb dL_law_953 ?_
    refine va_sld hx hb hX hbl hbA hS (hw_in (by omega) (by omega)) dL_law_954 ?_
    refine lv_i2l hx hb dL_law_955 rfl ?_
    refine lv_topl (fun x204 e205 => ?_)
    have e206 : x10 = x204 := by rw [e11, e205]
    subst e206
    refine lv_ldc2 (v := 4294967295) hx hb hown (hts (.constantLong RL 126 (4294967295)) (by decide +kernel)) dL_law_956 ?_
    refine lv_land hx hb dL_law_959 ?_
    refine lv_topl (fun x207 e208 => ?_)
    have e209 : x12 = x207 := by rw [e13, e208]
    subst e209
    refine lv_lor hx hb dL_law_960 ?_
    refine lv_topl (fun x210 e211 => ?_)
    have e212 : x14 = x210 := by rw [e15, e211]
    subst e212
    refine hw_cM0 (va_runV (As := [.int (xs (y3 + 1).toNatClampNeg), .int (xs (y3 + 2).toNatClampNeg), .int (xs (y3 + 3).toNatClampNeg), .long x14]) (rest := []) ⟨hx, hb, hml, hown, hts⟩ (k3_X12_hang l D G1 mo (xs (y3 + 1).toNatClampNeg) (xs (y3 + 2).toNatClampNeg) (xs (y3 + 3).toNatClampNeg) x14 _ rm udm kym lom wkm dkm lnm smm fim bem rkm rlm rwm clm dgm fla fsz fth gm Rm ⟨by first | decide | omega, by first | decide | omega⟩ ⟨by first | decide | omega, by first | decide | omega⟩ ⟨by first | decide | omega, by first | decide | omega⟩ ⟨by first | decide | omega, by first | decide | omega⟩ ⟨by first | decide | omega, by first | decide | omega⟩ ⟨by first | decide | omega, by first | decide | omega⟩ ⟨by first | decide | omega, by first | decide | omega⟩ ⟨by first | decide | omega, by first | decide | omega⟩ ⟨by first | decide | omega, by first | decide | omega⟩ ⟨by first | decide | omega, by first | decide | omega⟩ ⟨by first | decide | omega, by first | decide | omega⟩ ⟨by first | decide | omega, by first | decide | omega⟩ qsz) (cwV 4 hts gL_law_X12_hang rfl rfl rfl (by decide +kernel) ⟨Nat.le_of_ble_eq_true rfl, Nat.le_of_ble_eq_true rfl⟩) (hw_pV (hw_rc (q := (RX12, TX12, 45)) hK vm rfl) hH hK hST hS (by decide) (hw_hG hGe1) ⟨vm, vla, vsz, vth⟩) rfl rfl hl.1 rfl (lv_room (Nat.le_of_ble_eq_true rfl)) dL_law_961 ⟨by show _ ≤ 600000; omega, by show _ ≤ 7302250; omega⟩) hS (hw_AWsub (by decide) hGe1 hS.1) (fun v H locs hp hz hk hS => ?_)
    rcases hp with ⟨f213, rfl, hH, v214, v215, v216, v217, q218, q219⟩ | ⟨f220, rfl, hH, v221, v222, v223, v224, q225, q226, q227⟩ | ⟨f228, rfl, hH, v229, v230, v231, v232, q233, q234, q235, q236⟩ | ⟨f237, rfl, hH, v238, v239, v240, v241, q242, q243, q244, q245, q246⟩ | ⟨f247, rfl, hH, v248, v249, v250, v251, q252, q253, q254, q255, q256, q257⟩ | ⟨f258, rfl, hH, v259, v260, v261, v262, q263, q264, q265, q266, q267, q268, q269⟩
    · have hRK := hw_RK3.kept hRK (fun q9 h9 l9 => hk q9 l9 (by rcases h9 with h9 | h9 <;> exact hw_AWn h9 (by decide) l9))
      have v23 := va_at.kept v23 (hk _ (hw_lt v23) (hw_AWn gx (by decide) (hw_lt v23)))
      have v24 := va_at.kept v24 (hk _ (hw_lt v24) (hw_AWn (hw_RX_13 Rx) (by decide) (hw_lt v24)))
      refine lv_pop hx hb dL_law_964 rfl ?_
      refine lv_goto (tgt := 1187) hx hb dL_law_965 (by decide) ?_
      refine W.widen (k := k + 20) (n := n + 80) (by first | omega | (show _ ≤ _; omega)) (by first | omega | (show _ ≤ _; omega)) ?_
      exact hk9 _ _ _ ⟨G1, rx, rm, pnx, pcx, ksx, scx, udm, kym, lom, wkm, dkm, lnm, smm, fim, bem, rkm, rlm, rwm, clm, dgm, fq, la, sz9, fla, fsz, th, tt, f213, hH, hGe1, wx, wm, gx, gm, Rx, v23, ⟨by first | decide | omega, by first | decide | omega⟩, v24, hRK, Rm, v214, ⟨by first | decide | omega, by first | decide | omega⟩, ⟨by first | decide | omega, by first | decide | omega⟩, ⟨by first | decide | omega, by first | decide | omega⟩, ⟨by first | decide | omega, by first | decide | omega⟩, ⟨by first | decide | omega, by first | decide | omega⟩, ⟨by first | decide | omega, by first | decide | omega⟩, ⟨by first | decide | omega, by first | decide | omega⟩, ⟨by first | decide | omega, by first | decide | omega⟩, ⟨by first | decide | omega, by first | decide | omega⟩, ⟨by first | decide | omega, by first | decide | omega⟩, ⟨by first | decide | omega, by first | decide | omega⟩, ⟨by first | decide | omega, by first | decide | omega⟩, v215, v216, qsz, hrel, v217, (by rw [q219]; exact hrt)⟩ hS hl
    · have hRK := hw_RK3.kept hRK (fun q9 h9 l9 => hk q9 l9 (by rcases h9 with h9 | h9 <;> exact hw_AWn h9 (by decide) l9))
      have v23 := va_at.kept v23 (hk _ (hw_lt v23) (hw_AWn gx (by decide) (hw_lt v23)))
      have v24 := va_at.kept v24 (hk _ (hw_lt v24) (hw_AWn (hw_RX_13 Rx) (by decide) (hw_lt v24)))
      refine lv_pop hx hb dL_law_964 rfl ?_
      refine lv_goto (tgt := 1187) hx hb dL_law_965 (by decide) ?_
      refine W.widen (k := k + 20) (n := n + 80) (by first | omega | (show _ ≤ _; omega)) (by first | omega | (show _ ≤ _; omega)) ?_
      exact hk9 _ _ _ ⟨G1, rx, rm, pnx, pcx, ksx, scx, udm, kym, lom, wkm, dkm, lnm, smm, fim, bem, rkm, rlm, rwm, clm, dgm, fq, la, sz9, fla, fsz, th, tt, f220, hH, hGe1, wx, wm, gx, gm, Rx, v23, ⟨by first | decide | omega, by first | decide | omega⟩, v24, hRK, Rm, v221, ⟨by first | decide | omega, by first | decide | omega⟩, ⟨by first | decide | omega, by first | decide | omega⟩, ⟨by first | decide | omega, by first | decide | omega⟩, ⟨by first | decide | omega, by first | decide | omega⟩, ⟨by first | decide | omega, by first | decide | omega⟩, ⟨by first | decide | omega, by first | decide | omega⟩, ⟨by first | decide | omega, by first | decide | omega⟩, ⟨by first | decide | omega, by first | decide | omega⟩, ⟨by first | decide | omega, by first | decide | omega⟩, ⟨by first | decide | omega, by first | decide | omega⟩, ⟨by first | decide | omega, by first | decide | omega⟩, ⟨by first | decide | omega, by first | decide | omega⟩, v222, v223, qsz, hrel, v224, (by rw [q227]; exact hrt)⟩ hS hl
    · have hRK := hw_RK3.kept hRK (fun q9 h9 l9 => hk q9 l9 (by rcases h9 with h9 | h9 <;> exact hw_AWn h9 (by decide) l9))
      have v23 := va_at.kept v23 (hk _ (hw_lt v23) (hw_AWn gx (by decide) (hw_lt v23)))
      have v24 := va_at.kept v24 (hk _ (hw_lt v24) (hw_AWn (hw_RX_13 Rx) (by decide) (hw_lt v24)))
      refine lv_pop hx hb dL_law_964 rfl ?_
      refine lv_goto (tgt := 1187) hx hb dL_law_965 (by decide) ?_
      refine W.widen (k := k + 20) (n := n + 80) (by first | omega | (show _ ≤ _; omega)) (by first | omega | (show _ ≤ _; omega)) ?_
      exact hk9 _ _ _ ⟨G1, rx, rm, pnx, pcx, ksx, scx, udm, kym, lom, wkm, dkm, lnm, smm, fim, bem, rkm, rlm, rwm, clm, dgm, fq, la, sz9, fla, fsz, th, tt, f228, hH, hGe1, wx, wm, gx, gm, Rx, v23, ⟨by first | decide | omega, by first | decide | omega⟩, v24, hRK, Rm, v229, ⟨by first | decide | omega, by first | decide | omega⟩, ⟨by first | decide | omega, by first | decide | omega⟩, ⟨by first | decide | omega, by first | decide | omega⟩, ⟨by first | decide | omega, by first | decide | omega⟩, ⟨by first | decide | omega, by first | decide | omega⟩, ⟨by first | decide | omega, by first | decide | omega⟩, ⟨by first | decide | omega, by first | decide | omega⟩, ⟨by first | decide | omega, by first | decide | omega⟩, ⟨by first | decide | omega, by first | decide | omega⟩, ⟨by first | decide | omega, by first | decide | omega⟩, ⟨by first | decide | omega, by first | decide | omega⟩, ⟨by first | decide | omega, by first | decide | omega⟩, v230, v231, qsz, hrel, v232, (by rw [q236]; exact hrt)⟩ hS hl
    · have hRK := hw_RK3.kept hRK (fun q9 h9 l9 => hk q9 l9 (by rcases h9 with h9 | h9 <;> exact hw_AWn h9 (by decide) l9))
      have v23 := va_at.kept v23 (hk _ (hw_lt v23) (hw_AWn gx (by decide) (hw_lt v23)))
      have v24 := va_at.kept v24 (hk _ (hw_lt v24) (hw_AWn (hw_RX_13 Rx) (by decide) (hw_lt v24)))
      refine lv_pop hx hb dL_law_964 rfl ?_
      refine lv_goto (tgt := 1187) hx hb dL_law_965 (by decide) ?_
      refine W.widen (k := k + 20) (n := n + 80) (by first | omega | (show _ ≤ _; omega)) (by first | omega | (show _ ≤ _; omega)) ?_
      exact hk9 _ _ _ ⟨G1, rx, rm, pnx, pcx, ksx, scx, udm, kym, lom, wkm, dkm, lnm, smm, fim, bem, rkm, rlm, rwm, clm, dgm, fq, la, sz9, fla, fsz, th, tt, f237, hH, hGe1, wx, wm, gx, gm, Rx, v23, ⟨by first | decide | omega, by first | decide | omega⟩, v24, hRK, Rm, v238, ⟨by first | decide | omega, by first | decide | omega⟩, ⟨by first | decide | omega, by first | decide | omega⟩, ⟨by first | decide | omega, by first | decide | omega⟩, ⟨by first | decide | omega, by first | decide | omega⟩, ⟨by first | decide | omega, by first | decide | omega⟩, ⟨by first | decide | omega, by first | decide | omega⟩, ⟨by first | decide | omega, by first | decide | omega⟩, ⟨by first | decide | omega, by first | decide | omega⟩, ⟨by first | decide | omega, by first | decide | omega⟩, ⟨by first | decide | omega, by first | decide | omega⟩, ⟨by first | decide | omega, by first | decide | omega⟩, ⟨by first | decide | omega, by first | decide | omega⟩, v239, v240, qsz, hrel, v241, (by rw [q246]; exact hrt)⟩ hS hl
    · have hRK := hw_RK3.kept hRK (fun q9 h9 l9 => hk q9 l9 (by rcases h9 with h9 | h9 <;> exact hw_AWn h9 (by decide) l9))
      have v23 := va_at.kept v23 (hk _ (hw_lt v23) (hw_AWn gx (by decide) (hw_lt v23)))
      have v24 := va_at.kept v24 (hk _ (hw_lt v24) (hw_AWn (hw_RX_13 Rx) (by decide) (hw_lt v24)))
      refine lv_pop hx hb dL_law_964 rfl ?_
      refine lv_goto (tgt := 1187) hx hb dL_law_965 (by decide) ?_
      refine W.widen (k := k + 20) (n := n + 80) (by first | omega | (show _ ≤ _; omega)) (by first | omega | (show _ ≤ _; omega)) ?_
      exact hk9 _ _ _ ⟨G1, rx, rm, pnx, pcx, ksx, scx, udm, kym, lom, wkm, dkm, lnm, smm, fim, bem, rkm, rlm, rwm, clm, dgm, fq, la, sz9, fla, fsz, th, tt, f247, hH, hGe1, wx, wm, gx, gm, Rx, v23, ⟨by first | decide | omega, by first | decide | omega⟩, v24, hRK, Rm, v248, ⟨by first | decide | omega, by first | decide | omega⟩, ⟨by first | decide | omega, by first | decide | omega⟩, ⟨by first | decide | omega, by first | decide | omega⟩, ⟨by first | decide | omega, by first | decide | omega⟩, ⟨by first | decide | omega, by first | decide | omega⟩, ⟨by first | decide | omega, by first | decide | omega⟩, ⟨by first | decide | omega, by first | decide | omega⟩, ⟨by first | decide | omega, by first | decide | omega⟩, ⟨by first | decide | omega, by first | decide | omega⟩, ⟨by first | decide | omega, by first | decide | omega⟩, ⟨by first | decide | omega, by first | decide | omega⟩, ⟨by first | decide | omega, by first | decide | omega⟩, v249, v250, qsz, hrel, v251, (by rw [q257]; exact hrt)⟩ hS hl
    · have hRK := hw_RK3.kept hRK (fun q9 h9 l9 => hk q9 l9 (by rcases h9 with h9 | h9 <;> exact hw_AWn h9 (by decide) l9))
      have v23 := va_at.kept v23 (hk _ (hw_lt v23) (hw_AWn gx (by decide) (hw_lt v23)))
      have v24 := va_at.kept v24 (hk _ (hw_lt v24) (hw_AWn (hw_RX_13 Rx) (by decide) (hw_lt v24)))
      refine lv_pop hx hb dL_law_964 rfl ?_
      refine lv_goto (tgt := 1187) hx hb dL_law_965 (by decide) ?_
      refine W.widen (k := k + 20) (n := n + 80) (by first | omega | (show _ ≤ _; omega)) (by first | omega | (show _ ≤ _; omega)) ?_
      exact hk9 _ _ _ ⟨G1, rx, rm, pnx, pcx, ksx, scx, udm, kym, lom, wkm, dkm, lnm, smm, fim, bem, rkm, rlm, rwm, clm, dgm, fq, la, sz9, fla, fsz, th, tt, f258, hH, hGe1, wx, wm, gx, gm, Rx, v23, ⟨by first | decide | omega, by first | decide | omega⟩, v24, hRK, Rm, v259, ⟨by first | decide | omega, by first | decide | omega⟩, ⟨by first | decide | omega, by first | decide | omega⟩, ⟨by first | decide | omega, by first | decide | omega⟩, ⟨by first | decide | omega, by first | decide | omega⟩, ⟨by first | decide | omega, by first | decide | omega⟩, ⟨by first | decide | omega, by first | decide | omega⟩, ⟨by first | decide | omega, by first | decide | omega⟩, ⟨by first | decide | omega, by first | decide | omega⟩, ⟨by first | decide | omega, by first | decide | omega⟩, ⟨by first | decide | omega, by first | decide | omega⟩, ⟨by first | decide | omega, by first | decide | omega⟩, ⟨by first | decide | omega, by first | decide | omega⟩, v260, v261, qsz, hrel, v262, (by exfalso; omega)⟩ hS hl
  · have vm := va_at.kept vm (hk _ (hw_lt vm) (hw_AWn gm (by decide) (hw_lt vm)))
    have vla := va_at.kept vla (hk _ (hw_lt vla) (hw_AWn (hw_RM_41 Rm) (by decide) (hw_lt vla)))
    have vsz := va_at.kept vsz (hk _ (hw_lt vsz) (hw_AWn (hw_RM_42 Rm) (by decide) (hw_lt vsz)))
    have vth := va_at.kept vth (hk _ (hw_lt vth) (hw_AWn (hw_RM_43 Rm) (by decide) (hw_lt vth)))
    have hr270 : 0 ≤ (xs (y3 + 1).toNatClampNeg).toInt ∧ (xs (y3 + 1).toNatClampNeg).toInt ≤ 3 → ((la (xs (y3 + 1).toNatClampNeg).toNatClampNeg).toInt = -1 ↔ (fsz (xs (y3 + 1).toNatClampNeg).toNatClampNeg).toInt < 0) ∧ ((la (xs (y3 + 1).toNatClampNeg).toNatClampNeg).toInt ≠ -1 → (fla (xs (y3 + 1).toNatClampNeg).toNatClampNeg).toInt = (la (xs (y3 + 1).toNatClampNeg).toNatClampNeg).toInt ∧ (fsz (xs (y3 + 1).toNatClampNeg).toNatClampNeg).toInt = (sz9 (xs (y3 + 1).toNatClampNeg).toNatClampNeg).toInt) := fun h9 => hrel _ (hw_i4 h9)
    refine lv_pop hx hb dL_law_924 rfl ?_
    refine lv_aload_n hx hb dL_law_925 rfl (lv_at hl 1 rfl) ?_
    refine lv_aload_n hx hb dL_law_926 rfl (lv_at hl 3 rfl) ?_
    refine lv_iload_n hx hb dL_law_927 rfl (lv_at hl 0 rfl) ?_
    refine lv_iconst (v := 1) hx hb dL_law_928 (by decide) ?_
    refine lv_iadd hx hb dL_law_929 ?_
    refine va_sld hx hb hX hbl hbA hS (hw_in (by omega) (by omega)) dL_law_930 ?_
    refine lv_aload_n hx hb dL_law_931 rfl (lv_at hl 3 rfl) ?_
    refine lv_iload_n hx hb dL_law_932 rfl (lv_at hl 0 rfl) ?_
    refine lv_iconst (v := 2) hx hb dL_law_933 (by decide) ?_
    refine lv_iadd hx hb dL_law_934 ?_
    refine va_sld hx hb hX hbl hbA hS (hw_in (by omega) (by omega)) dL_law_935 ?_
    refine lv_aload_n hx hb dL_law_936 rfl (lv_at hl 3 rfl) ?_
    refine lv_iload_n hx hb dL_law_937 rfl (lv_at hl 0 rfl) ?_
    refine lv_iconst (v := 3) hx hb dL_law_938 (by decide) ?_
    refine lv_iadd hx hb dL_law_939 ?_
    refine va_sld hx hb hX hbl hbA hS (hw_in (by omega) (by omega)) dL_law_940 ?_
    refine lv_aload_n hx hb dL_law_941 rfl (lv_at hl 3 rfl) ?_
    refine lv_iload_n hx hb dL_law_942 rfl (lv_at hl 0 rfl) ?_
    refine lv_iconst (v := 4) hx hb dL_law_943 (by decide) ?_
    refine lv_iadd hx hb dL_law_944 ?_
    refine va_sld hx hb hX hbl hbA hS (hw_in (by omega) (by omega)) dL_law_945 ?_
    refine lv_i2l hx hb dL_law_946 rfl ?_
    refine lv_topl (fun x271 e272 => ?_)
    have e273 : x5 = x271 := by rw [e6, e272]
    subst e273
    refine lv_bipush (v := 32) hx hb dL_law_947 (by decide) ?_
    refine lv_lshl hx hb dL_law_949 rfl ?_
    refine lv_topl (fun x274 e275 => ?_)
    have e276 : x7 = x274 := by rw [e8, e275]
    subst e276
    refine lv_aload_n hx hb dL_law_950 rfl (lv_at hl 3 rfl) ?_
    refine lv_iload_n hx hb dL_law_951 rfl (lv_at hl 0 rfl) ?_
    refine lv_iconst (v := 5) hx hb dL_law_952 (by decide) ?_
    refine lv_iadd hx hb dL_law_953 ?_
    refine va_sld hx hb hX hbl hbA hS (hw_in (by omega) (by omega)) dL_law_954 ?_
    refine lv_i2l hx hb dL_law_955 rfl ?_
    refine lv_topl (fun x277 e278 => ?_)
    have e279 : x10 = x277 := by rw [e11, e278]
    subst e279
    refine lv_ldc2 (v := 4294967295) hx hb hown (hts (.constantLong RL 126 (4294967295)) (by decide +kernel)) dL_law_956 ?_
    refine lv_land hx hb dL_law_959 ?_
    refine lv_topl (fun x280 e281 => ?_)
    have e282 : x12 = x280 := by rw [e13, e281]
    subst e282
    refine lv_lor hx hb dL_law_960 ?_
    refine lv_topl (fun x283 e284 => ?_)
    have e285 : x14 = x283 := by rw [e15, e284]
    subst e285
    refine hw_cM0 (va_runV (As := [.int (xs (y3 + 1).toNatClampNeg), .int (xs (y3 + 2).toNatClampNeg), .int (xs (y3 + 3).toNatClampNeg), .long x14]) (rest := []) ⟨hx, hb, hml, hown, hts⟩ (k3_X12_hang l D G1 mo (xs (y3 + 1).toNatClampNeg) (xs (y3 + 2).toNatClampNeg) (xs (y3 + 3).toNatClampNeg) x14 _ rm udm kym lom wkm dkm lnm smm fim bem rkm rlm rwm clm dgm fla fsz fth gm Rm ⟨by first | decide | omega, by first | decide | omega⟩ ⟨by first | decide | omega, by first | decide | omega⟩ ⟨by first | decide | omega, by first | decide | omega⟩ ⟨by first | decide | omega, by first | decide | omega⟩ ⟨by first | decide | omega, by first | decide | omega⟩ ⟨by first | decide | omega, by first | decide | omega⟩ ⟨by first | decide | omega, by first | decide | omega⟩ ⟨by first | decide | omega, by first | decide | omega⟩ ⟨by first | decide | omega, by first | decide | omega⟩ ⟨by first | decide | omega, by first | decide | omega⟩ ⟨by first | decide | omega, by first | decide | omega⟩ ⟨by first | decide | omega, by first | decide | omega⟩ qsz) (cwV 4 hts gL_law_X12_hang rfl rfl rfl (by decide +kernel) ⟨Nat.le_of_ble_eq_true rfl, Nat.le_of_ble_eq_true rfl⟩) (hw_pV (hw_rc (q := (RX12, TX12, 45)) hK vm rfl) hH hK hST hS (by decide) (hw_hG hGe1) ⟨vm, vla, vsz, vth⟩) rfl rfl hl.1 rfl (lv_room (Nat.le_of_ble_eq_true rfl)) dL_law_961 ⟨by show _ ≤ 600000; omega, by show _ ≤ 7302250; omega⟩) hS (hw_AWsub (by decide) hGe1 hS.1) (fun v H locs hp hz hk hS => ?_)
    rcases hp with ⟨f286, rfl, hH, v287, v288, v289, v290, q291, q292⟩ | ⟨f293, rfl, hH, v294, v295, v296, v297, q298, q299, q300⟩ | ⟨f301, rfl, hH, v302, v303, v304, v305, q306, q307, q308, q309⟩ | ⟨f310, rfl, hH, v311, v312, v313, v314, q315, q316, q317, q318, q319⟩ | ⟨f320, rfl, hH, v321, v322, v323, v324, q325, q326, q327, q328, q329, q330⟩ | ⟨f331, rfl, hH, v332, v333, v334, v335, q336, q337, q338, q339, q340, q341, q342⟩
    · have hRK := hw_RK3.kept hRK (fun q9 h9 l9 => hk q9 l9 (by rcases h9 with h9 | h9 <;> exact hw_AWn h9 (by decide) l9))
      have v28 := va_at.kept v28 (hk _ (hw_lt v28) (hw_AWn gx (by decide) (hw_lt v28)))
      have v29 := va_at.kept v29 (hk _ (hw_lt v29) (hw_AWn (hw_RX_13 Rx) (by decide) (hw_lt v29)))
      refine lv_pop hx hb dL_law_964 rfl ?_
      refine lv_goto (tgt := 1187) hx hb dL_law_965 (by decide) ?_
      refine W.widen (k := k + 20) (n := n + 80) (by first | omega | (show _ ≤ _; omega)) (by first | omega | (show _ ≤ _; omega)) ?_
      exact hk9 _ _ _ ⟨G1, rx, rm, pnx, pcx, ksx, scx, udm, kym, lom, wkm, dkm, lnm, smm, fim, bem, rkm, rlm, rwm, clm, dgm, fq, la, sz9, fla, fsz, th, tt, f286, hH, hGe1, wx, wm, gx, gm, Rx, v28, ⟨by first | decide | omega, by first | decide | omega⟩, v29, hRK, Rm, v287, ⟨by first | decide | omega, by first | decide | omega⟩, ⟨by first | decide | omega, by first | decide | omega⟩, ⟨by first | decide | omega, by first | decide | omega⟩, ⟨by first | decide | omega, by first | decide | omega⟩, ⟨by first | decide | omega, by first | decide | omega⟩, ⟨by first | decide | omega, by first | decide | omega⟩, ⟨by first | decide | omega, by first | decide | omega⟩, ⟨by first | decide | omega, by first | decide | omega⟩, ⟨by first | decide | omega, by first | decide | omega⟩, ⟨by first | decide | omega, by first | decide | omega⟩, ⟨by first | decide | omega, by first | decide | omega⟩, ⟨by first | decide | omega, by first | decide | omega⟩, v288, v289, qsz, hrel, v290, (by rw [q292]; exact hrt)⟩ hS hl
    · have hRK := hw_RK3.kept hRK (fun q9 h9 l9 => hk q9 l9 (by rcases h9 with h9 | h9 <;> exact hw_AWn h9 (by decide) l9))
      have v28 := va_at.kept v28 (hk _ (hw_lt v28) (hw_AWn gx (by decide) (hw_lt v28)))
      have v29 := va_at.kept v29 (hk _ (hw_lt v29) (hw_AWn (hw_RX_13 Rx) (by decide) (hw_lt v29)))
      refine lv_pop hx hb dL_law_964 rfl ?_
      refine lv_goto (tgt := 1187) hx hb dL_law_965 (by decide) ?_
      refine W.widen (k := k + 20) (n := n + 80) (by first | omega | (show _ ≤ _; omega)) (by first | omega | (show _ ≤ _; omega)) ?_
      exact hk9 _ _ _ ⟨G1, rx, rm, pnx, pcx, ksx, scx, udm, kym, lom, wkm, dkm, lnm, smm, fim, bem, rkm, rlm, rwm, clm, dgm, fq, la, sz9, fla, fsz, th, tt, f293, hH, hGe1, wx, wm, gx, gm, Rx, v28, ⟨by first | decide | omega, by first | decide | omega⟩, v29, hRK, Rm, v294, ⟨by first | decide | omega, by first | decide | omega⟩, ⟨by first | decide | omega, by first | decide | omega⟩, ⟨by first | decide | omega, by first | decide | omega⟩, ⟨by first | decide | omega, by first | decide | omega⟩, ⟨by first | decide | omega, by first | decide | omega⟩, ⟨by first | decide | omega, by first | decide | omega⟩, ⟨by first | decide | omega, by first | decide | omega⟩, ⟨by first | decide | omega, by first | decide | omega⟩, ⟨by first | decide | omega, by first | decide | omega⟩, ⟨by first | decide | omega, by first | decide | omega⟩, ⟨by first | decide | omega, by first | decide | omega⟩, ⟨by first | decide | omega, by first | decide | omega⟩, v295, v296, qsz, hrel, v297, (by rw [q300]; exact hrt)⟩ hS hl
    · have hRK := hw_RK3.kept hRK (fun q9 h9 l9 => hk q9 l9 (by rcases h9 with h9 | h9 <;> exact hw_AWn h9 (by decide) l9))
      have v28 := va_at.kept v28 (hk _ (hw_lt v28) (hw_AWn gx (by decide) (hw_lt v28)))
      have v29 := va_at.kept v29 (hk _ (hw_lt v29) (hw_AWn (hw_RX_13 Rx) (by decide) (hw_lt v29)))
      refine lv_pop hx hb dL_law_964 rfl ?_
      refine lv_goto (tgt := 1187) hx hb dL_law_965 (by decide) ?_
      refine W.widen (k := k + 20) (n := n + 80) (by first | omega | (show _ ≤ _; omega)) (by first | omega | (show _ ≤ _; omega)) ?_
      exact hk9 _ _ _ ⟨G1, rx, rm, pnx, pcx, ksx, scx, udm, kym, lom, wkm, dkm, lnm, smm, fim, bem, rkm, rlm, rwm, clm, dgm, fq, la, sz9, fla, fsz, th, tt, f301, hH, hGe1, wx, wm, gx, gm, Rx, v28, ⟨by first | decide | omega, by first | decide | omega⟩, v29, hRK, Rm, v302, ⟨by first | decide | omega, by first | decide | omega⟩, ⟨by first | decide | omega, by first | decide | omega⟩, ⟨by first | decide | omega, by first | decide | omega⟩, ⟨by first | decide | omega, by first | decide | omega⟩, ⟨by first | decide | omega, by first | decide | omega⟩, ⟨by first | decide | omega, by first | decide | omega⟩, ⟨by first | decide | omega, by first | decide | omega⟩, ⟨by first | decide | omega, by first | decide | omega⟩, ⟨by first | decide | omega, by first | decide | omega⟩, ⟨by first | decide | omega, by first | decide | omega⟩, ⟨by first | decide | omega, by first | decide | omega⟩, ⟨by first | decide | omega, by first | decide | omega⟩, v303, v304, qsz, hrel, v305, (by rw [q309]; exact hrt)⟩ hS hl
    · have hRK := hw_RK3.kept hRK (fun q9 h9 l9 => hk q9 l9 (by rcases h9 with h9 | h9 <;> exact hw_AWn h9 (by decide) l9))
      have v28 := va_at.kept v28 (hk _ (hw_lt v28) (hw_AWn gx (by decide) (hw_lt v28)))
      have v29 := va_at.kept v29 (hk _ (hw_lt v29) (hw_AWn (hw_RX_13 Rx) (by decide) (hw_lt v29)))
      refine lv_pop hx hb dL_law_964 rfl ?_
      refine lv_goto (tgt := 1187) hx hb dL_law_965 (by decide) ?_
      refine W.widen (k := k + 20) (n := n + 80) (by first | omega | (show _ ≤ _; omega)) (by first | omega | (show _ ≤ _; omega)) ?_
      exact hk9 _ _ _ ⟨G1, rx, rm, pnx, pcx, ksx, scx, udm, kym, lom, wkm, dkm, lnm, smm, fim, bem, rkm, rlm, rwm, clm, dgm, fq, la, sz9, fla, fsz, th, tt, f310, hH, hGe1, wx, wm, gx, gm, Rx, v28, ⟨by first | decide | omega, by first | decide | omega⟩, v29, hRK, Rm, v311, ⟨by first | decide | omega, by first | decide | omega⟩, ⟨by first | decide | omega, by first | decide | omega⟩, ⟨by first | decide | omega, by first | decide | omega⟩, ⟨by first | decide | omega, by first | decide | omega⟩, ⟨by first | decide | omega, by first | decide | omega⟩, ⟨by first | decide | omega, by first | decide | omega⟩, ⟨by first | decide | omega, by first | decide | omega⟩, ⟨by first | decide | omega, by first | decide | omega⟩, ⟨by first | decide | omega, by first | decide | omega⟩, ⟨by first | decide | omega, by first | decide | omega⟩, ⟨by first | decide | omega, by first | decide | omega⟩, ⟨by first | decide | omega, by first | decide | omega⟩, v312, v313, qsz, hrel, v314, (by rw [q319]; exact hrt)⟩ hS hl
    · have hRK := hw_RK3.kept hRK (fun q9 h9 l9 => hk q9 l9 (by rcases h9 with h9 | h9 <;> exact hw_AWn h9 (by decide) l9))
      have v28 := va_at.kept v28 (hk _ (hw_lt v28) (hw_AWn gx (by decide) (hw_lt v28)))
      have v29 := va_at.kept v29 (hk _ (hw_lt v29) (hw_AWn (hw_RX_13 Rx) (by decide) (hw_lt v29)))
      refine lv_pop hx hb dL_law_964 rfl ?_
      refine lv_goto (tgt := 1187) hx hb dL_law_965 (by decide) ?_
      refine W.widen (k := k + 20) (n := n + 80) (by first | omega | (show _ ≤ _; omega)) (by first | omega | (show _ ≤ _; omega)) ?_
      exact hk9 _ _ _ ⟨G1, rx, rm, pnx, pcx, ksx, scx, udm, kym, lom, wkm, dkm, lnm, smm, fim, bem, rkm, rlm, rwm, clm, dgm, fq, la, sz9, fla, fsz, th, tt, f320, hH, hGe1, wx, wm, gx, gm, Rx, v28, ⟨by first | decide | omega, by first | decide | omega⟩, v29, hRK, Rm, v321, ⟨by first | decide | omega, by first | decide | omega⟩, ⟨by first | decide | omega, by first | decide | omega⟩, ⟨by first | decide | omega, by first | decide | omega⟩, ⟨by first | decide | omega, by first | decide | omega⟩, ⟨by first | decide | omega, by first | decide | omega⟩, ⟨by first | decide | omega, by first | decide | omega⟩, ⟨by first | decide | omega, by first | decide | omega⟩, ⟨by first | decide | omega, by first | decide | omega⟩, ⟨by first | decide | omega, by first | decide | omega⟩, ⟨by first | decide | omega, by first | decide | omega⟩, ⟨by first | decide | omega, by first | decide | omega⟩, ⟨by first | decide | omega, by first | decide | omega⟩, v322, v323, qsz, hrel, v324, (by rw [q330]; exact hrt)⟩ hS hl
    · have hRK := hw_RK3.kept hRK (fun q9 h9 l9 => hk q9 l9 (by rcases h9 with h9 | h9 <;> exact hw_AWn h9 (by decide) l9))
      have v28 := va_at.kept v28 (hk _ (hw_lt v28) (hw_AWn gx (by decide) (hw_lt v28)))
      have v29 := va_at.kept v29 (hk _ (hw_lt v29) (hw_AWn (hw_RX_13 Rx) (by decide) (hw_lt v29)))
      refine lv_pop hx hb dL_law_964 rfl ?_
      refine lv_goto (tgt := 1187) hx hb dL_law_965 (by decide) ?_
      refine W.widen (k := k + 20) (n := n + 80) (by first | omega | (show _ ≤ _; omega)) (by first | omega | (show _ ≤ _; omega)) ?_
      exact hk9 _ _ _ ⟨G1, rx, rm, pnx, pcx, ksx, scx, udm, kym, lom, wkm, dkm, lnm, smm, fim, bem, rkm, rlm, rwm, clm, dgm, fq, la, sz9, fla, fsz, th, tt, f331, hH, hGe1, wx, wm, gx, gm, Rx, v28, ⟨by first | decide | omega, by first | decide | omega⟩, v29, hRK, Rm, v332, ⟨by first | decide | omega, by first | decide | omega⟩, ⟨by first | decide | omega, by first | decide | omega⟩, ⟨by first | decide | omega, by first | decide | omega⟩, ⟨by first | decide | omega, by first | decide | omega⟩, ⟨by first | decide | omega, by first | decide | omega⟩, ⟨by first | decide | omega, by first | decide | omega⟩, ⟨by first | decide | omega, by first | decide | omega⟩, ⟨by first | decide | omega, by first | decide | omega⟩, ⟨by first | decide | omega, by first | decide | omega⟩, ⟨by first | decide | omega, by first | decide | omega⟩, ⟨by first | decide | omega, by first | decide | omega⟩, ⟨by first | decide | omega, by first | decide | omega⟩, v333, v334, qsz, hrel, v335, (by exfalso; omega)⟩ hS hl
  · have vm := va_at.kept vm (hk _ (hw_lt vm) (hw_AWn gm (by decide) (hw_lt vm)))
    have vla := va_at.kept vla (hk _ (hw_lt vla) (hw_AWn (hw_RM_41 Rm) (by decide) (hw_lt vla)))
    have vsz := va_at.kept vsz (hk _ (hw_lt vsz) (hw_AWn (hw_RM_42 Rm) (by decide) (hw_lt vsz)))
    have vth := va_at.kept vth (hk _ (hw_lt vth) (hw_AWn (hw_RM_43 Rm) (by decide) (hw_lt vth)))
    have hr343 : 0 ≤ (xs (y3 + 1).toNatClampNeg).toInt ∧ (xs (y3 + 1).toNatClampNeg).toInt ≤ 3 → ((la (xs (y3 + 1).toNatClampNeg).toNatClampNeg).toInt = -1 ↔ (fsz (xs (y3 + 1).toNatClampNeg).toNatClampNeg).toInt < 0) ∧ ((la (xs (y3 + 1).toNatClampNeg).toNatClampNeg).toInt ≠ -1 → (fla (xs (y3 + 1).toNatClampNeg).toNatClampNeg).toInt = (la (xs (y3 + 1).toNatClampNeg).toNatClampNeg).toInt ∧ (fsz (xs (y3 + 1).toNatClampNeg).toNatClampNeg).toInt = (sz9 (xs (y3 + 1).toNatClampNeg).toNatClampNeg).toInt) := fun h9 => hrel _ (hw_i4 h9)
    refine lv_pop hx hb dL_law_924 rfl ?_
    refine lv_aload_n hx hb dL_law_925 rfl (lv_at hl 1 rfl) ?_
    refine lv_aload_n hx hb dL_law_926 rfl (lv_at hl 3 rfl) ?_
    refine lv_iload_n hx hb dL_law_927 rfl (lv_at hl 0 rfl) ?_
    refine lv_iconst (v := 1) hx hb dL_law_928 (by decide) ?_
    refine lv_iadd hx hb dL_law_929 ?_
    refine va_sld hx hb hX hbl hbA hS (hw_in (by omega) (by omega)) dL_law_930 ?_
    refine lv_aload_n hx hb dL_law_931 rfl (lv_at hl 3 rfl) ?_
    refine lv_iload_n hx hb dL_law_932 rfl (lv_at hl 0 rfl) ?_
    refine lv_iconst (v := 2) hx hb dL_law_933 (by decide) ?_
    refine lv_iadd hx hb dL_law_934 ?_
    refine va_sld hx hb hX hbl hbA hS (hw_in (by omega) (by omega)) dL_law_935 ?_
    refine lv_aload_n hx hb dL_law_936 rfl (lv_at hl 3 rfl) ?_
    refine lv_iload_n hx hb dL_law_937 rfl (lv_at hl 0 rfl) ?_
    refine lv_iconst (v := 3) hx hb dL_law_938 (by decide) ?_
    refine lv_iadd hx hb dL_law_939 ?_
    refine va_sld hx hb hX hbl hbA hS (hw_in (by omega) (by omega)) dL_law_940 ?_
    refine lv_aload_n hx hb dL_law_941 rfl (lv_at hl 3 rfl) ?_
    refine lv_iload_n hx hb dL_law_942 rfl (lv_at hl 0 rfl) ?_
    refine lv_iconst (v := 4) hx hb dL_law_943 (by decide) ?_
    refine lv_iadd hx hb dL_law_944 ?_
    refine va_sld hx hb hX hbl hbA hS (hw_in (by omega) (by omega)) dL_law_945 ?_
    refine lv_i2l hx hb dL_law_946 rfl ?_
    refine lv_topl (fun x344 e345 => ?_)
    have e346 : x5 = x344 := by rw [e6, e345]
    subst e346
    refine lv_bipush (v := 32) hx hb dL_law_947 (by decide) ?_
    refine lv_lshl hx hb dL_law_949 rfl ?_
    refine lv_topl (fun x347 e348 => ?_)
    have e349 : x7 = x347 := by rw [e8, e348]
    subst e349
    refine lv_aload_n hx hb dL_law_950 rfl (lv_at hl 3 rfl) ?_
    refine lv_iload_n hx hb dL_law_951 rfl (lv_at hl 0 rfl) ?_
    refine lv_iconst (v := 5) hx hb dL_law_952 (by decide) ?_
    refine lv_iadd hx hb dL_law_953 ?_
    refine va_sld hx hb hX hbl hbA hS (hw_in (by omega) (by omega)) dL_law_954 ?_
    refine lv_i2l hx hb dL_law_955 rfl ?_
    refine lv_topl (fun x350 e351 => ?_)
    have e352 : x10 = x350 := by rw [e11, e351]
    subst e352
    refine lv_ldc2 (v := 4294967295) hx hb hown (hts (.constantLong RL 126 (4294967295)) (by decide +kernel)) dL_law_956 ?_
    refine lv_land hx hb dL_law_959 ?_
    refine lv_topl (fun x353 e354 => ?_)
    have e355 : x12 = x353 := by rw [e13, e354]
    subst e355
    refine lv_lor hx hb dL_law_960 ?_
    refine lv_topl (fun x356 e357 => ?_)
    have e358 : x14 = x356 := by rw [e15, e357]
    subst e358
    refine hw_cM0 (va_runV (As := [.int (xs (y3 + 1).toNatClampNeg), .int (xs (y3 + 2).toNatClampNeg), .int (xs (y3 + 3).toNatClampNeg), .long x14]) (rest := []) ⟨hx, hb, hml, hown, hts⟩ (k3_X12_hang l D G1 mo (xs (y3 + 1).toNatClampNeg) (xs (y3 + 2).toNatClampNeg) (xs (y3 + 3).toNatClampNeg) x14 _ rm udm kym lom wkm dkm lnm smm fim bem rkm rlm rwm clm dgm fla fsz fth gm Rm ⟨by first | decide | omega, by first | decide | omega⟩ ⟨by first | decide | omega, by first | decide | omega⟩ ⟨by first | decide | omega, by first | decide | omega⟩ ⟨by first | decide | omega, by first | decide | omega⟩ ⟨by first | decide | omega, by first | decide | omega⟩ ⟨by first | decide | omega, by first | decide | omega⟩ ⟨by first | decide | omega, by first | decide | omega⟩ ⟨by first | decide | omega, by first | decide | omega⟩ ⟨by first | decide | omega, by first | decide | omega⟩ ⟨by first | decide | omega, by first | decide | omega⟩ ⟨by first | decide | omega, by first | decide | omega⟩ ⟨by first | decide | omega, by first | decide | omega⟩ qsz) (cwV 4 hts gL_law_X12_hang rfl rfl rfl (by decide +kernel) ⟨Nat.le_of_ble_eq_true rfl, Nat.le_of_ble_eq_true rfl⟩) (hw_pV (hw_rc (q := (RX12, TX12, 45)) hK vm rfl) hH hK hST hS (by decide) (hw_hG hGe1) ⟨vm, vla, vsz, vth⟩) rfl rfl hl.1 rfl (lv_room (Nat.le_of_ble_eq_true rfl)) dL_law_961 ⟨by show _ ≤ 600000; omega, by show _ ≤ 7302250; omega⟩) hS (hw_AWsub (by decide) hGe1 hS.1) (fun v H locs hp hz hk hS => ?_)
    rcases hp with ⟨f359, rfl, hH, v360, v361, v362, v363, q364, q365⟩ | ⟨f366, rfl, hH, v367, v368, v369, v370, q371, q372, q373⟩ | ⟨f374, rfl, hH, v375, v376, v377, v378, q379, q380, q381, q382⟩ | ⟨f383, rfl, hH, v384, v385, v386, v387, q388, q389, q390, q391, q392⟩ | ⟨f393, rfl, hH, v394, v395, v396, v397, q398, q399, q400, q401, q402, q403⟩ | ⟨f404, rfl, hH, v405, v406, v407, v408, q409, q410, q411, q412, q413, q414, q415⟩
    · have hRK := hw_RK3.kept hRK (fun q9 h9 l9 => hk q9 l9 (by rcases h9 with h9 | h9 <;> exact hw_AWn h9 (by decide) l9))
      have v34 := va_at.kept v34 (hk _ (hw_lt v34) (hw_AWn gx (by decide) (hw_lt v34)))
      have v35 := va_at.kept v35 (hk _ (hw_lt v35) (hw_AWn (hw_RX_13 Rx) (by decide) (hw_lt v35)))
      refine lv_pop hx hb dL_law_964 rfl ?_
      refine lv_goto (tgt := 1187) hx hb dL_law_965 (by decide) ?_
      refine W.widen (k := k + 20) (n := n + 80) (by first | omega | (show _ ≤ _; omega)) (by first | omega | (show _ ≤ _; omega)) ?_
      exact hk9 _ _ _ ⟨G1, rx, rm, pnx, pcx, ksx, scx, udm, kym, lom, wkm, dkm, lnm, smm, fim, bem, rkm, rlm, rwm, clm, dgm, fq, la, sz9, fla, fsz, th, tt, f359, hH, hGe1, wx, wm, gx, gm, Rx, v34, ⟨by first | decide | omega, by first | decide | omega⟩, v35, hRK, Rm, v360, ⟨by first | decide | omega, by first | decide | omega⟩, ⟨by first | decide | omega, by first | decide | omega⟩, ⟨by first | decide | omega, by first | decide | omega⟩, ⟨by first | decide | omega, by first | decide | omega⟩, ⟨by first | decide | omega, by first | decide | omega⟩, ⟨by first | decide | omega, by first | decide | omega⟩, ⟨by first | decide | omega, by first | decide | omega⟩, ⟨by first | decide | omega, by first | decide | omega⟩, ⟨by first | decide | omega, by first | decide | omega⟩, ⟨by first | decide | omega, by first | decide | omega⟩, ⟨by first | decide | omega, by first | decide | omega⟩, ⟨by first | decide | omega, by first | decide | omega⟩, v361, v362, qsz, hrel, v363, (by rw [q365]; exact hrt)⟩ hS hl
    · have hRK := hw_RK3.kept hRK (fun q9 h9 l9 => hk q9 l9 (by rcases h9 with h9 | h9 <;> exact hw_AWn h9 (by decide) l9))
      have v34 := va_at.kept v34 (hk _ (hw_lt v34) (hw_AWn gx (by decide) (hw_lt v34)))
      have v35 := va_at.kept v35 (hk _ (hw_lt v35) (hw_AWn (hw_RX_13 Rx) (by decide) (hw_lt v35)))
      refine lv_pop hx hb dL_law_964 rfl ?_
      refine lv_goto (tgt := 1187) hx hb dL_law_965 (by decide) ?_
      refine W.widen (k := k + 20) (n := n + 80) (by first | omega | (show _ ≤ _; omega)) (by first | omega | (show _ ≤ _; omega)) ?_
      exact hk9 _ _ _ ⟨G1, rx, rm, pnx, pcx, ksx, scx, udm, kym, lom, wkm, dkm, lnm, smm, fim, bem, rkm, rlm, rwm, clm, dgm, fq, la, sz9, fla, fsz, th, tt, f366, hH, hGe1, wx, wm, gx, gm, Rx, v34, ⟨by first | decide | omega, by first | decide | omega⟩, v35, hRK, Rm, v367, ⟨by first | decide | omega, by first | decide | omega⟩, ⟨by first | decide | omega, by first | decide | omega⟩, ⟨by first | decide | omega, by first | decide | omega⟩, ⟨by first | decide | omega, by first | decide | omega⟩, ⟨by first | decide | omega, by first | decide | omega⟩, ⟨by first | decide | omega, by first | decide | omega⟩, ⟨by first | decide | omega, by first | decide | omega⟩, ⟨by first | decide | omega, by first | decide | omega⟩, ⟨by first | decide | omega, by first | decide | omega⟩, ⟨by first | decide | omega, by first | decide | omega⟩, ⟨by first | decide | omega, by first | decide | omega⟩, ⟨by first | decide | omega, by first | decide | omega⟩, v368, v369, qsz, hrel, v370, (by rw [q373]; exact hrt)⟩ hS hl
    · have hRK := hw_RK3.kept hRK (fun q9 h9 l9 => hk q9 l9 (by rcases h9 with h9 | h9 <;> exact hw_AWn h9 (by decide) l9))
      have v34 := va_at.kept v34 (hk _ (hw_lt v34) (hw_AWn gx (by decide) (hw_lt v34)))
      have v35 := va_at.kept v35 (hk _ (hw_lt v35) (hw_AWn (hw_RX_13 Rx) (by decide) (hw_lt v35)))
      refine lv_pop hx hb dL_law_964 rfl ?_
      refine lv_goto (tgt := 1187) hx hb dL_law_965 (by decide) ?_
      refine W.widen (k := k + 20) (n := n + 80) (by first | omega | (show _ ≤ _; omega)) (by first | omega | (show _ ≤ _; omega)) ?_
      exact hk9 _ _ _ ⟨G1, rx, rm, pnx, pcx, ksx, scx, udm, kym, lom, wkm, dkm, lnm, smm, fim, bem, rkm, rlm, rwm, clm, dgm, fq, la, sz9, fla, fsz, th, tt, f374, hH, hGe1, wx, wm, gx, gm, Rx, v34, ⟨by first | decide | omega, by first | decide | omega⟩, v35, hRK, Rm, v375, ⟨by first | decide | omega, by first | decide | omega⟩, ⟨by first | decide | omega, by first | decide | omega⟩, ⟨by first | decide | omega, by first | decide | omega⟩, ⟨by first | decide | omega, by first | decide | omega⟩, ⟨by first | decide | omega, by first | decide | omega⟩, ⟨by first | decide | omega, by first | decide | omega⟩, ⟨by first | decide | omega, by first | decide | omega⟩, ⟨by first | decide | omega, by first | decide | omega⟩, ⟨by first | decide | omega, by first | decide | omega⟩, ⟨by first | decide | omega, by first | decide | omega⟩, ⟨by first | decide | omega, by first | decide | omega⟩, ⟨by first | decide | omega, by first | decide | omega⟩, v376, v377, qsz, hrel, v378, (by rw [q382]; exact hrt)⟩ hS hl
    · have hRK := hw_RK3.kept hRK (fun q9 h9 l9 => hk q9 l9 (by rcases h9 with h9 | h9 <;> exact hw_AWn h9 (by decide) l9))
      have v34 := va_at.kept v34 (hk _ (hw_lt v34) (hw_AWn gx (by decide) (hw_lt v34)))
      have v35 := va_at.kept v35 (hk _ (hw_lt v35) (hw_AWn (hw_RX_13 Rx) (by decide) (hw_lt v35)))
      refine lv_pop hx hb dL_law_964 rfl ?_
      refine lv_goto (tgt := 1187) hx hb dL_law_965 (by decide) ?_
      refine W.widen (k := k + 20) (n := n + 80) (by first | omega | (show _ ≤ _; omega)) (by first | omega | (show _ ≤ _; omega)) ?_
      exact hk9 _ _ _ ⟨G1, rx, rm, pnx, pcx, ksx, scx, udm, kym, lom, wkm, dkm, lnm, smm, fim, bem, rkm, rlm, rwm, clm, dgm, fq, la, sz9, fla, fsz, th, tt, f383, hH, hGe1, wx, wm, gx, gm, Rx, v34, ⟨by first | decide | omega, by first | decide | omega⟩, v35, hRK, Rm, v384, ⟨by first | decide | omega, by first | decide | omega⟩, ⟨by first | decide | omega, by first | decide | omega⟩, ⟨by first | decide | omega, by first | decide | omega⟩, ⟨by first | decide | omega, by first | decide | omega⟩, ⟨by first | decide | omega, by first | decide | omega⟩, ⟨by first | decide | omega, by first | decide | omega⟩, ⟨by first | decide | omega, by first | decide | omega⟩, ⟨by first | decide | omega, by first | decide | omega⟩, ⟨by first | decide | omega, by first | decide | omega⟩, ⟨by first | decide | omega, by first | decide | omega⟩, ⟨by first | decide | omega, by first | decide | omega⟩, ⟨by first | decide | omega, by first | decide | omega⟩, v385, v386, qsz, hrel, v387, (by rw [q392]; exact hrt)⟩ hS hl
    · have hRK := hw_RK3.kept hRK (fun q9 h9 l9 => hk q9 l9 (by rcases h9 with h9 | h9 <;> exact hw_AWn h9 (by decide) l9))
      have v34 := va_at.kept v34 (hk _ (hw_lt v34) (hw_AWn gx (by decide) (hw_lt v34)))
      have v35 := va_at.kept v35 (hk _ (hw_lt v35) (hw_AWn (hw_RX_13 Rx) (by decide) (hw_lt v35)))
      refine lv_pop hx hb dL_law_964 rfl ?_
      refine lv_goto (tgt := 1187) hx hb dL_law_965 (by decide) ?_
      refine W.widen (k := k + 20) (n := n + 80) (by first | omega | (show _ ≤ _; omega)) (by first | omega | (show _ ≤ _; omega)) ?_
      exact hk9 _ _ _ ⟨G1, rx, rm, pnx, pcx, ksx, scx, udm, kym, lom, wkm, dkm, lnm, smm, fim, bem, rkm, rlm, rwm, clm, dgm, fq, la, sz9, fla, fsz, th, tt, f393, hH, hGe1, wx, wm, gx, gm, Rx, v34, ⟨by first | decide | omega, by first | decide | omega⟩, v35, hRK, Rm, v394, ⟨by first | decide | omega, by first | decide | omega⟩, ⟨by first | decide | omega, by first | decide | omega⟩, ⟨by first | decide | omega, by first | decide | omega⟩, ⟨by first | decide | omega, by first | decide | omega⟩, ⟨by first | decide | omega, by first | decide | omega⟩, ⟨by first | decide | omega, by first | decide | omega⟩, ⟨by first | decide | omega, by first | decide | omega⟩, ⟨by first | decide | omega, by first | decide | omega⟩, ⟨by first | decide | omega, by first | decide | omega⟩, ⟨by first | decide | omega, by first | decide | omega⟩, ⟨by first | decide | omega, by first | decide | omega⟩, ⟨by first | decide | omega, by first | decide | omega⟩, v395, v396, qsz, hrel, v397, (by rw [q403]; exact hrt)⟩ hS hl
    · have hRK := hw_RK3.kept hRK (fun q9 h9 l9 => hk q9 l9 (by rcases h9 with h9 | h9 <;> exact hw_AWn h9 (by decide) l9))
      have v34 := va_at.kept v34 (hk _ (hw_lt v34) (hw_AWn gx (by decide) (hw_lt v34)))
      have v35 := va_at.kept v35 (hk _ (hw_lt v35) (hw_AWn (hw_RX_13 Rx) (by decide) (hw_lt v35)))
      refine lv_pop hx hb dL_law_964 rfl ?_
      refine lv_goto (tgt := 1187) hx hb dL_law_965 (by decide) ?_
      refine W.widen (k := k + 20) (n := n + 80) (by first | omega | (show _ ≤ _; omega)) (by first | omega | (show _ ≤ _; omega)) ?_
      exact hk9 _ _ _ ⟨G1, rx, rm, pnx, pcx, ksx, scx, udm, kym, lom, wkm, dkm, lnm, smm, fim, bem, rkm, rlm, rwm, clm, dgm, fq, la, sz9, fla, fsz, th, tt, f404, hH, hGe1, wx, wm, gx, gm, Rx, v34, ⟨by first | decide | omega, by first | decide | omega⟩, v35, hRK, Rm, v405, ⟨by first | decide | omega, by first | decide | omega⟩, ⟨by first | decide | omega, by first | decide | omega⟩, ⟨by first | decide | omega, by first | decide | omega⟩, ⟨by first | decide | omega, by first | decide | omega⟩, ⟨by first | decide | omega, by first | decide | omega⟩, ⟨by first | decide | omega, by first | decide | omega⟩, ⟨by first | decide | omega, by first | decide | omega⟩, ⟨by first | decide | omega, by first | decide | omega⟩, ⟨by first | decide | omega, by first | decide | omega⟩, ⟨by first | decide | omega, by first | decide | omega⟩, ⟨by first | decide | omega, by first | decide | omega⟩, ⟨by first | decide | omega, by first | decide | omega⟩, v406, v407, qsz, hrel, v408, (by exfalso; omega)⟩ hS hl
  · have vm := va_at.kept vm (hk _ (hw_lt vm) (hw_AWn gm (by decide) (hw_lt vm)))
    have vla := va_at.kept vla (hk _ (hw_lt vla) (hw_AWn (hw_RM_41 Rm) (by decide) (hw_lt vla)))
    have vsz := va_at.kept vsz (hk _ (hw_lt vsz) (hw_AWn (hw_RM_42 Rm) (by decide) (hw_lt vsz)))
    have vth := va_at.kept vth (hk _ (hw_lt vth) (hw_AWn (hw_RM_43 Rm) (by decide) (hw_lt vth)))
    have hr416 : 0 ≤ (xs (y3 + 1).toNatClampNeg).toInt ∧ (xs (y3 + 1).toNatClampNeg).toInt ≤ 3 → ((la (xs (y3 + 1).toNatClampNeg).toNatClampNeg).toInt = -1 ↔ (fsz (xs (y3 + 1).toNatClampNeg).toNatClampNeg).toInt < 0) ∧ ((la (xs (y3 + 1).toNatClampNeg).toNatClampNeg).toInt ≠ -1 → (fla (xs (y3 + 1).toNatClampNeg).toNatClampNeg).toInt = (la (xs (y3 + 1).toNatClampNeg).toNatClampNeg).toInt ∧ (fsz (xs (y3 + 1).toNatClampNeg).toNatClampNeg).toInt = (sz9 (xs (y3 + 1).toNatClampNeg).toNatClampNeg).toInt) := fun h9 => hrel _ (hw_i4 h9)
    refine lv_pop hx hb dL_law_924 rfl ?_
    refine lv_aload_n hx hb dL_law_925 rfl (lv_at hl 1 rfl) ?_
    refine lv_aload_n hx hb dL_law_926 rfl (lv_at hl 3 rfl) ?_
    refine lv_iload_n hx hb dL_law_927 rfl (lv_at hl 0 rfl) ?_
    refine lv_iconst (v := 1) hx hb dL_law_928 (by decide) ?_
    refine lv_iadd hx hb dL_law_929 ?_
    refine va_sld hx hb hX hbl hbA hS (hw_in (by omega) (by omega)) dL_law_930 ?_
    refine lv_aload_n hx hb dL_law_931 rfl (lv_at hl 3 rfl) ?_
    refine lv_iload_n hx hb dL_law_932 rfl (lv_at hl 0 rfl) ?_
    refine lv_iconst (v := 2) hx hb dL_law_933 (by decide) ?_
    refine lv_iadd hx hb dL_law_934 ?_
    refine va_sld hx hb hX hbl hbA hS (hw_in (by omega) (by omega)) dL_law_935 ?_
    refine lv_aload_n hx hb dL_law_936 rfl (lv_at hl 3 rfl) ?_
    refine lv_iload_n hx hb dL_law_937 rfl (lv_at hl 0 rfl) ?_
    refine lv_iconst (v := 3) hx hb dL_law_938 (by decide) ?_
    refine lv_iadd hx hb dL_law_939 ?_
    refine va_sld hx hb hX hbl hbA hS (hw_in (by omega) (by omega)) dL_law_940 ?_
    refine lv_aload_n hx hb dL_law_941 rfl (lv_at hl 3 rfl) ?_
    refine lv_iload_n hx hb dL_law_942 rfl (lv_at hl 0 rfl) ?_
    refine lv_iconst (v := 4) hx hb dL_law_943 (by decide) ?_
    refine lv_iadd hx hb dL_law_944 ?_
    refine va_sld hx hb hX hbl hbA hS (hw_in (by omega) (by omega)) dL_law_945 ?_
    refine lv_i2l hx hb dL_law_946 rfl ?_
    refine lv_topl (fun x417 e418 => ?_)
    have e419 : x5 = x417 := by rw [e6, e418]
    subst e419
    refine lv_bipush (v := 32) hx hb dL_law_947 (by decide) ?_
    refine lv_lshl hx hb dL_law_949 rfl ?_
    refine lv_topl (fun x420 e421 => ?_)
    have e422 : x7 = x420 := by rw [e8, e421]
    subst e422
    refine lv_aload_n hx hb dL_law_950 rfl (lv_at hl 3 rfl) ?_
    refine lv_iload_n hx hb dL_law_951 rfl (lv_at hl 0 rfl) ?_
    refine lv_iconst (v := 5) hx hb dL_law_952 (by decide) ?_
    refine lv_iadd hx hb dL_law_953 ?_
    refine va_sld hx hb hX hbl hbA hS (hw_in (by omega) (by omega)) dL_law_954 ?_
    refine lv_i2l hx hb dL_law_955 rfl ?_
    refine lv_topl (fun x423 e424 => ?_)
    have e425 : x10 = x423 := by rw [e11, e424]
    subst e425
    refine lv_ldc2 (v := 4294967295) hx hb hown (hts (.constantLong RL 126 (4294967295)) (by decide +kernel)) dL_law_956 ?_
    refine lv_land hx hb dL_law_959 ?_
    refine lv_topl (fun x426 e427 => ?_)
    have e428 : x12 = x426 := by rw [e13, e427]
    subst e428
    refine lv_lor hx hb dL_law_960 ?_
    refine lv_topl (fun x429 e430 => ?_)
    have e431 : x14 = x429 := by rw [e15, e430]
    subst e431
    refine hw_cM0 (va_runV (As := [.int (xs (y3 + 1).toNatClampNeg), .int (xs (y3 + 2).toNatClampNeg), .int (xs (y3 + 3).toNatClampNeg), .long x14]) (rest := []) ⟨hx, hb, hml, hown, hts⟩ (k3_X12_hang l D G1 mo (xs (y3 + 1).toNatClampNeg) (xs (y3 + 2).toNatClampNeg) (xs (y3 + 3).toNatClampNeg) x14 _ rm udm kym lom wkm dkm lnm smm fim bem rkm rlm rwm clm dgm fla fsz fth gm Rm ⟨by first | decide | omega, by first | decide | omega⟩ ⟨by first | decide | omega, by first | decide | omega⟩ ⟨by first | decide | omega, by first | decide | omega⟩ ⟨by first | decide | omega, by first | decide | omega⟩ ⟨by first | decide | omega, by first | decide | omega⟩ ⟨by first | decide | omega, by first | decide | omega⟩ ⟨by first | decide | omega, by first | decide | omega⟩ ⟨by first | decide | omega, by first | decide | omega⟩ ⟨by first | decide | omega, by first | decide | omega⟩ ⟨by first | decide | omega, by first | decide | omega⟩ ⟨by first | decide | omega, by first | decide | omega⟩ ⟨by first | decide | omega, by first | decide | omega⟩ qsz) (cwV 4 hts gL_law_X12_hang rfl rfl rfl (by decide +kernel) ⟨Nat.le_of_ble_eq_true rfl, Nat.le_of_ble_eq_true rfl⟩) (hw_pV (hw_rc (q := (RX12, TX12, 45)) hK vm rfl) hH hK hST hS (by decide) (hw_hG hGe1) ⟨vm, vla, vsz, vth⟩) rfl rfl hl.1 rfl (lv_room (Nat.le_of_ble_eq_true rfl)) dL_law_961 ⟨by show _ ≤ 600000; omega, by show _ ≤ 7302250; omega⟩) hS (hw_AWsub (by decide) hGe1 hS.1) (fun v H locs hp hz hk hS => ?_)
    rcases hp with ⟨f432, rfl, hH, v433, v434, v435, v436, q437, q438⟩ | ⟨f439, rfl, hH, v440, v441, v442, v443, q444, q445, q446⟩ | ⟨f447, rfl, hH, v448, v449, v450, v451, q452, q453, q454, q455⟩ | ⟨f456, rfl, hH, v457, v458, v459, v460, q461, q462, q463, q464, q465⟩ | ⟨f466, rfl, hH, v467, v468, v469, v470, q471, q472, q473, q474, q475, q476⟩ | ⟨f477, rfl, hH, v478, v479, v480, v481, q482, q483, q484, q485, q486, q487, q488⟩
    · have hRK := hw_RK3.kept hRK (fun q9 h9 l9 => hk q9 l9 (by rcases h9 with h9 | h9 <;> exact hw_AWn h9 (by decide) l9))
      have v42 := va_at.kept v42 (hk _ (hw_lt v42) (hw_AWn gx (by decide) (hw_lt v42)))
      have v43 := va_at.kept v43 (hk _ (hw_lt v43) (hw_AWn (hw_RX_13 Rx) (by decide) (hw_lt v43)))
      refine lv_pop hx hb dL_law_964 rfl ?_
      refine lv_goto (tgt := 1187) hx hb dL_law_965 (by decide) ?_
      refine W.widen (k := k + 20) (n := n + 80) (by first | omega | (show _ ≤ _; omega)) (by first | omega | (show _ ≤ _; omega)) ?_
      exact hk9 _ _ _ ⟨G1, rx, rm, pnx, pcx, ksx, scx, udm, kym, lom, wkm, dkm, lnm, smm, fim, bem, rkm, rlm, rwm, clm, dgm, fq, la, sz9, fla, fsz, th, f41, f432, hH, hGe1, wx, wm, gx, gm, Rx, v42, ⟨by first | decide | omega, by first | decide | omega⟩, v43, hRK, Rm, v433, ⟨by first | decide | omega, by first | decide | omega⟩, ⟨by first | decide | omega, by first | decide | omega⟩, ⟨by first | decide | omega, by first | decide | omega⟩, ⟨by first | decide | omega, by first | decide | omega⟩, ⟨by first | decide | omega, by first | decide | omega⟩, ⟨by first | decide | omega, by first | decide | omega⟩, ⟨by first | decide | omega, by first | decide | omega⟩, ⟨by first | decide | omega, by first | decide | omega⟩, ⟨by first | decide | omega, by first | decide | omega⟩, ⟨by first | decide | omega, by first | decide | omega⟩, ⟨by first | decide | omega, by first | decide | omega⟩, ⟨by first | decide | omega, by first | decide | omega⟩, v434, v435, qsz, hrel, v436, (by exfalso; omega)⟩ hS hl
    · have hRK := hw_RK3.kept hRK (fun q9 h9 l9 => hk q9 l9 (by rcases h9 with h9 | h9 <;> exact hw_AWn h9 (by decide) l9))
      have v42 := va_at.kept v42 (hk _ (hw_lt v42) (hw_AWn gx (by decide) (hw_lt v42)))
      have v43 := va_at.kept v43 (hk _ (hw_lt v43) (hw_AWn (hw_RX_13 Rx) (by decide) (hw_lt v43)))
      refine lv_pop hx hb dL_law_964 rfl ?_
      refine lv_goto (tgt := 1187) hx hb dL_law_965 (by decide) ?_
      refine W.widen (k := k + 20) (n := n + 80) (by first | omega | (show _ ≤ _; omega)) (by first | omega | (show _ ≤ _; omega)) ?_
      exact hk9 _ _ _ ⟨G1, rx, rm, pnx, pcx, ksx, scx, udm, kym, lom, wkm, dkm, lnm, smm, fim, bem, rkm, rlm, rwm, clm, dgm, fq, la, sz9, fla, fsz, th, f41, f439, hH, hGe1, wx, wm, gx, gm, Rx, v42, ⟨by first | decide | omega, by first | decide | omega⟩, v43, hRK, Rm, v440, ⟨by first | decide | omega, by first | decide | omega⟩, ⟨by first | decide | omega, by first | decide | omega⟩, ⟨by first | decide | omega, by first | decide | omega⟩, ⟨by first | decide | omega, by first | decide | omega⟩, ⟨by first | decide | omega, by first | decide | omega⟩, ⟨by first | decide | omega, by first | decide | omega⟩, ⟨by first | decide | omega, by first | decide | omega⟩, ⟨by first | decide | omega, by first | decide | omega⟩, ⟨by first | decide | omega, by first | decide | omega⟩, ⟨by first | decide | omega, by first | decide | omega⟩, ⟨by first | decide | omega, by first | decide | omega⟩, ⟨by first | decide | omega, by first | decide | omega⟩, v441, v442, qsz, hrel, v443, (by exfalso; omega)⟩ hS hl
    · have hRK := hw_RK3.kept hRK (fun q9 h9 l9 => hk q9 l9 (by rcases h9 with h9 | h9 <;> exact hw_AWn h9 (by decide) l9))
      have v42 := va_at.kept v42 (hk _ (hw_lt v42) (hw_AWn gx (by decide) (hw_lt v42)))
      have v43 := va_at.kept v43 (hk _ (hw_lt v43) (hw_AWn (hw_RX_13 Rx) (by decide) (hw_lt v43)))
      refine lv_pop hx hb dL_law_964 rfl ?_
      refine lv_goto (tgt := 1187) hx hb dL_law_965 (by decide) ?_
      refine W.widen (k := k + 20) (n := n + 80) (by first | omega | (show _ ≤ _; omega)) (by first | omega | (show _ ≤ _; omega)) ?_
      exact hk9 _ _ _ ⟨G1, rx, rm, pnx, pcx, ksx, scx, udm, kym, lom, wkm, dkm, lnm, smm, fim, bem, rkm, rlm, rwm, clm, dgm, fq, la, sz9, fla, fsz, th, f41, f447, hH, hGe1, wx, wm, gx, gm, Rx, v42, ⟨by first | decide | omega, by first | decide | omega⟩, v43, hRK, Rm, v448, ⟨by first | decide | omega, by first | decide | omega⟩, ⟨by first | decide | omega, by first | decide | omega⟩, ⟨by first | decide | omega, by first | decide | omega⟩, ⟨by first | decide | omega, by first | decide | omega⟩, ⟨by first | decide | omega, by first | decide | omega⟩, ⟨by first | decide | omega, by first | decide | omega⟩, ⟨by first | decide | omega, by first | decide | omega⟩, ⟨by first | decide | omega, by first | decide | omega⟩, ⟨by first | decide | omega, by first | decide | omega⟩, ⟨by first | decide | omega, by first | decide | omega⟩, ⟨by first | decide | omega, by first | decide | omega⟩, ⟨by first | decide | omega, by first | decide | omega⟩, v449, v450, qsz, hrel, v451, (by exfalso; omega)⟩ hS hl
    · have hRK := hw_RK3.kept hRK (fun q9 h9 l9 => hk q9 l9 (by rcases h9 with h9 | h9 <;> exact hw_AWn h9 (by decide) l9))
      have v42 := va_at.kept v42 (hk _ (hw_lt v42) (hw_AWn gx (by decide) (hw_lt v42)))
      have v43 := va_at.kept v43 (hk _ (hw_lt v43) (hw_AWn (hw_RX_13 Rx) (by decide) (hw_lt v43)))
      refine lv_pop hx hb dL_law_964 rfl ?_
      refine lv_goto (tgt := 1187) hx hb dL_law_965 (by decide) ?_
      refine W.widen (k := k + 20) (n := n + 80) (by first | omega | (show _ ≤ _; omega)) (by first | omega | (show _ ≤ _; omega)) ?_
      exact hk9 _ _ _ ⟨G1, rx, rm, pnx, pcx, ksx, scx, udm, kym, lom, wkm, dkm, lnm, smm, fim, bem, rkm, rlm, rwm, clm, dgm, fq, la, sz9, fla, fsz, th, f41, f456, hH, hGe1, wx, wm, gx, gm, Rx, v42, ⟨by first | decide | omega, by first | decide | omega⟩, v43, hRK, Rm, v457, ⟨by first | decide | omega, by first | decide | omega⟩, ⟨by first | decide | omega, by first | decide | omega⟩, ⟨by first | decide | omega, by first | decide | omega⟩, ⟨by first | decide | omega, by first | decide | omega⟩, ⟨by first | decide | omega, by first | decide | omega⟩, ⟨by first | decide | omega, by first | decide | omega⟩, ⟨by first | decide | omega, by first | decide | omega⟩, ⟨by first | decide | omega, by first | decide | omega⟩, ⟨by first | decide | omega, by first | decide | omega⟩, ⟨by first | decide | omega, by first | decide | omega⟩, ⟨by first | decide | omega, by first | decide | omega⟩, ⟨by first | decide | omega, by first | decide | omega⟩, v458, v459, qsz, hrel, v460, (by exfalso; omega)⟩ hS hl
    · have hRK := hw_RK3.kept hRK (fun q9 h9 l9 => hk q9 l9 (by rcases h9 with h9 | h9 <;> exact hw_AWn h9 (by decide) l9))
      have v42 := va_at.kept v42 (hk _ (hw_lt v42) (hw_AWn gx (by decide) (hw_lt v42)))
      have v43 := va_at.kept v43 (hk _ (hw_lt v43) (hw_AWn (hw_RX_13 Rx) (by decide) (hw_lt v43)))
      refine lv_pop hx hb dL_law_964 rfl ?_
      refine lv_goto (tgt := 1187) hx hb dL_law_965 (by decide) ?_
      refine W.widen (k := k + 20) (n := n + 80) (by first | omega | (show _ ≤ _; omega)) (by first | omega | (show _ ≤ _; omega)) ?_
      exact hk9 _ _ _ ⟨G1, rx, rm, pnx, pcx, ksx, scx, udm, kym, lom, wkm, dkm, lnm, smm, fim, bem, rkm, rlm, rwm, clm, dgm, fq, la, sz9, fla, fsz, th, f41, f466, hH, hGe1, wx, wm, gx, gm, Rx, v42, ⟨by first | decide | omega, by first | decide | omega⟩, v43, hRK, Rm, v467, ⟨by first | decide | omega, by first | decide | omega⟩, ⟨by first | decide | omega, by first | decide | omega⟩, ⟨by first | decide | omega, by first | decide | omega⟩, ⟨by first | decide | omega, by first | decide | omega⟩, ⟨by first | decide | omega, by first | decide | omega⟩, ⟨by first | decide | omega, by first | decide | omega⟩, ⟨by first | decide | omega, by first | decide | omega⟩, ⟨by first | decide | omega, by first | decide | omega⟩, ⟨by first | decide | omega, by first | decide | omega⟩, ⟨by first | decide | omega, by first | decide | omega⟩, ⟨by first | decide | omega, by first | decide | omega⟩, ⟨by first | decide | omega, by first | decide | omega⟩, v468, v469, qsz, hrel, v470, (by exfalso; omega)⟩ hS hl
    · have hRK := hw_RK3.kept hRK (fun q9 h9 l9 => hk q9 l9 (by rcases h9 with h9 | h9 <;> exact hw_AWn h9 (by decide) l9))
      have v42 := va_at.kept v42 (hk _ (hw_lt v42) (hw_AWn gx (by decide) (hw_lt v42)))
      have v43 := va_at.kept v43 (hk _ (hw_lt v43) (hw_AWn (hw_RX_13 Rx) (by decide) (hw_lt v43)))
      refine lv_pop hx hb dL_law_964 rfl ?_
      refine lv_goto (tgt := 1187) hx hb dL_law_965 (by decide) ?_
      refine W.widen (k := k + 20) (n := n + 80) (by first | omega | (show _ ≤ _; omega)) (by first | omega | (show _ ≤ _; omega)) ?_
      exact hk9 _ _ _ ⟨G1, rx, rm, pnx, pcx, ksx, scx, udm, kym, lom, wkm, dkm, lnm, smm, fim, bem, rkm, rlm, rwm, clm, dgm, fq, la, sz9, fla, fsz, th, f41, f477, hH, hGe1, wx, wm, gx, gm, Rx, v42, ⟨by first | decide | omega, by first | decide | omega⟩, v43, hRK, Rm, v478, ⟨by first | decide | omega, by first | decide | omega⟩, ⟨by first | decide | omega, by first | decide | omega⟩, ⟨by first | decide | omega, by first | decide | omega⟩, ⟨by first | decide | omega, by first | decide | omega⟩, ⟨by first | decide | omega, by first | decide | omega⟩, ⟨by first | decide | omega, by first | decide | omega⟩, ⟨by first | decide | omega, by first | decide | omega⟩, ⟨by first | decide | omega, by first | decide | omega⟩, ⟨by first | decide | omega, by first | decide | omega⟩, ⟨by first | decide | omega, by first | decide | omega⟩, ⟨by first | decide | omega, by first | decide | omega⟩, ⟨by first | decide | omega, by first | decide | omega⟩, v479, v480, qsz, hrel, v481, (hw_relT_hang hrt (by omega) (by omega) (by omega) q49 q50 q487 q488)⟩ hS hl

set_option maxHeartbeats 40000000 in
set_option maxRecDepth 100000 in
theorem hw_case968 {p : Program} {e : Env} {s : State} {m : MethodId} {below : List Frame} {meth : Method} {c : Code} (l : Launch) {b L : Nat} {xs : Nat → Int32} {D : hw_D} {G : Nat → Nat} {H : Heap} {locs : List Loc} {x mo k n : Nat} {y3 : Int32} {ls : Array Slot} (hL : L ≤ 384) (hy0 : 0 ≤ y3.toInt ∧ y3.toInt ≤ 384) (hy : y3.toInt + 6 ≤ L) (hkc : k + 20 ≤ 600000) (hnc : n + 80 ≤ 7302250) (hx : p.tables.exec = Jvm.exec) (hb : c.code = code) (hr : meth.sig.returnType = ret) (hml : c.maxLocals = 4) (hown : s.vm.findClass R_law = some m.cls) (hts0 : ∀ w ∈ lw_tbl, w.before #[Value.ref b] s = true) (hts : ∀ w ∈ wsL_law, w.before #[Value.ref b] s = true) (hX : va_X b L xs s s.heap) (hbl : b < s.heap.size) (hlocks : meth.locks = false) (hG0 : G = fun _ => 0) (hK : va_K D.1 vwCl (hw_ty D.2.1) s) (hST : hw_ST D.2.2 G s.heap.size s) (hI : hw_I D G s H x mo) (hS : va_S (hw_AW G [1, 2, 3, 4, 5, 6, 7, 8, 9, 10, 11, 12, 13, 14, 15, 16, 17, 18, 19, 20, 21, 22, 23, 24, 25, 26, 27, 28, 29, 30, 31, 32, 40, 42, 44, 45, 46, 48, 49, 50, 51, 53, 55, 58, 59, 67, 68, 69, 70, 71, 72, 73, 74, 75, 76, 77, 78, 79, 80, 81, 82, 83, 84, 101, 102, 103, 104, 105, 106, 107, 108, 109, 127, 128, 129, 132] s.heap.size) s.heap H locs) (hl : lv_has ls 4 [(3, .int y3), (2, .ref mo), (1, .ref x), (0, .ref b)]) (hk9 : ∀ (H1 : Heap) (locs1 : List Loc) (ls1 : Array Slot), hw_I D G s H1 x mo → va_S (hw_AW G [1, 2, 3, 4, 5, 6, 7, 8, 9, 10, 11, 12, 13, 14, 15, 16, 17, 18, 19, 20, 21, 22, 23, 24, 25, 26, 27, 28, 29, 30, 31, 32, 40, 42, 44, 45, 46, 48, 49, 50, 51, 53, 55, 58, 59, 67, 68, 69, 70, 71, 72, 73, 74, 75, 76, 77, 78, 79, 80, 81, 82, 83, 84, 101, 102, 103, 104, 105, 106, 107, 108, 109, 127, 128, 129, 132] s.heap.size) s.heap H1 locs1 → lv_has ls1 4 [(3, .int y3), (2, .ref mo), (1, .ref x), (0, .ref b)] → W p l e room_1 s m #[Value.ref b] below meth c H1 locs1 (k + 20) (n + 80) (lw_Z below #[Value.ref b] s) (F0 m 1187 ls1 [])) : W p l e room_1 s m #[Value.ref b] below meth c H locs k n (lw_Z below #[Value.ref b] s) (F0 m 968 ls []) := by
  have hH0 : hw_HT D G s.heap := fun a h => absurd (by rw [hG0]) h
  have hbA : ¬ (hw_AW G [1, 2, 3, 4, 5, 6, 7, 8, 9, 10, 11, 12, 13, 14, 15, 16, 17, 18, 19, 20, 21, 22, 23, 24, 25, 26, 27, 28, 29, 30, 31, 32, 40, 42, 44, 45, 46, 48, 49, 50, 51, 53, 55, 58, 59, 67, 68, 69, 70, 71, 72, 73, 74, 75, 76, 77, 78, 79, 80, 81, 82, 83, 84, 101, 102, 103, 104, 105, 106, 107, 108, 109, 127, 128, 129, 132] s.heap.size) b := hw_AWn (k := 0) (by rw [hG0]) (by decide) hbl
  have hLi : (Int32.ofNat L).toInt = (L : Int) := nI_toInt (by omega)
  refine hw_I_elim hI ?_
  intro G1 rx rm pnx pcx ksx scx udm kym lom wkm dkm lnm smm fim bem rkm rlm rwm clm dgm fq la sz9 fla fsz th tt fth hH hGe1 wx wm gx gm Rx vx gsc vq hRK Rm vm gm0 gm1 gm2 gm3 gm4 gm5 gm6 gm7 gm8 gm9 gm10 gm11 vla vsz qsz hrel vth hrt
  have hHs := hH0
  have hz24 := hw_hz24 hrel qsz
  have qq := hRK.q
  refine lv_aload_n hx hb dL_law_968 rfl (lv_at hl 2 rfl) ?_
  refine lv_aload_n hx hb dL_law_969 rfl (lv_at hl 3 rfl) ?_
  refine lv_iload_n hx hb dL_law_970 rfl (lv_at hl 0 rfl) ?_
  refine lv_iconst (v := 1) hx hb dL_law_971 (by decide) ?_
  refine lv_iadd hx hb dL_law_972 ?_
  have t1 : (y3 + 1).toInt = y3.toInt + 1 := hw_add rfl rfl (by omega) (by omega)
  refine va_sld hx hb hX hbl hbA hS (hw_in (by omega) (by omega)) dL_law_973 ?_
  refine lv_aload_n hx hb dL_law_974 rfl (lv_at hl 3 rfl) ?_
  refine lv_iload_n hx hb dL_law_975 rfl (lv_at hl 0 rfl) ?_
  refine lv_iconst (v := 2) hx hb dL_law_976 (by decide) ?_
  refine lv_iadd hx hb dL_law_977 ?_
  have t2 : (y3 + 2).toInt = y3.toInt + 2 := hw_add rfl rfl (by omega) (by omega)
  refine va_sld hx hb hX hbl hbA hS (hw_in (by omega) (by omega)) dL_law_978 ?_
  refine hw_cR (va_runV (As := [.int (xs (y3 + 1).toNatClampNeg), .int (xs (y3 + 2).toNatClampNeg)]) (rest := []) ⟨hx, hb, hml, hown, hts⟩ (k_X11_look l D G1 x (xs (y3 + 1).toNatClampNeg) (xs (y3 + 2).toNatClampNeg) _ la sz9 rx pnx pcx ksx scx fq gx Rx ⟨by first | decide | omega, by first | decide | omega⟩ qq) (cwV 2 hts gL_law_X11_look rfl rfl rfl (by decide +kernel) ⟨Nat.le_of_ble_eq_true rfl, Nat.le_of_ble_eq_true rfl⟩) (hw_pV (hw_rc (q := (RX11, TX11, 14)) hK vx rfl) hH hK hST hS (by decide) (hw_hG hGe1) ⟨vx, vq, hRK.racks⟩) rfl rfl hl.1 rfl (lv_room (Nat.le_of_ble_eq_true rfl)) dL_law_979 ⟨by show _ ≤ 600000; omega, by show _ ≤ 7302250; omega⟩) (fun v hp => ?_)
  rcases hp with ⟨rfl, q3⟩ | ⟨rfl, q4, q5⟩ | ⟨rfl, q6, q7, q8⟩ | ⟨x9, rfl, q10, q11⟩
  · have hr12 : 0 ≤ (xs (y3 + 1).toNatClampNeg).toInt ∧ (xs (y3 + 1).toNatClampNeg).toInt ≤ 3 → ((la (xs (y3 + 1).toNatClampNeg).toNatClampNeg).toInt = -1 ↔ (fsz (xs (y3 + 1).toNatClampNeg).toNatClampNeg).toInt < 0) ∧ ((la (xs (y3 + 1).toNatClampNeg).toNatClampNeg).toInt ≠ -1 → (fla (xs (y3 + 1).toNatClampNeg).toNatClampNeg).toInt = (la (xs (y3 + 1).toNatClampNeg).toNatClampNeg).toInt ∧ (fsz (xs (y3 + 1).toNatClampNeg).toNatClampNeg).toInt = (sz9 (xs (y3 + 1).toNatClampNeg).toNatClampNeg).toInt) := fun h9 => hrel _ (hw_i4 h9)
    refine lv_pop2_2 hx hb dL_law_982 rfl ?_
    refine lv_aload_n hx hb dL_law_983 rfl (lv_at hl 1 rfl) ?_
    refine lv_aload_n hx hb dL_law_984 rfl (lv_at hl 3 rfl) ?_
    refine lv_iload_n hx hb dL_law_985 rfl (lv_at hl 0 rfl) ?_
    refine lv_iconst (v := 1) hx hb dL_law_986 (by decide) ?_
    refine lv_iadd hx hb dL_law_987 ?_
    refine va_sld hx hb hX hbl hbA hS (hw_in (by omega) (by omega)) dL_law_988 ?_
    refine lv_aload_n hx hb dL_law_989 rfl (lv_at hl 3 rfl) ?_
    refine lv_iload_n hx hb dL_law_990 rfl (lv_at hl 0 rfl) ?_
    refine lv_iconst (v := 2) hx hb dL_law_991 (by decide) ?_
    refine lv_iadd hx hb dL_law_992 ?_
    refine va_sld hx hb hX hbl hbA hS (hw_in (by omega) (by omega)) dL_law_993 ?_
    refine hw_cR (va_runV (As := [.int (xs (y3 + 1).toNatClampNeg), .int (xs (y3 + 2).toNatClampNeg)]) (rest := []) ⟨hx, hb, hml, hown, hts⟩ (k_X12_look l D G1 mo (xs (y3 + 1).toNatClampNeg) (xs (y3 + 2).toNatClampNeg) _ rm udm kym lom wkm dkm lnm smm fim bem rkm rlm rwm clm dgm fsz gm Rm ⟨by first | decide | omega, by first | decide | omega⟩ ⟨by first | decide | omega, by first | decide | omega⟩ ⟨by first | decide | omega, by first | decide | omega⟩ ⟨by first | decide | omega, by first | decide | omega⟩ ⟨by first | decide | omega, by first | decide | omega⟩ ⟨by first | decide | omega, by first | decide | omega⟩ ⟨by first | decide | omega, by first | decide | omega⟩ ⟨by first | decide | omega, by first | decide | omega⟩ ⟨by first | decide | omega, by first | decide | omega⟩ ⟨by first | decide | omega, by first | decide | omega⟩ ⟨by first | decide | omega, by first | decide | omega⟩ ⟨by first | decide | omega, by first | decide | omega⟩ qsz) (cwV 2 hts gL_law_X12_look rfl rfl rfl (by decide +kernel) ⟨Nat.le_of_ble_eq_true rfl, Nat.le_of_ble_eq_true rfl⟩) (hw_pV (hw_rc (q := (RX12, TX12, 45)) hK vm rfl) hH hK hST hS (by decide) (hw_hG hGe1) ⟨vm, vsz⟩) rfl rfl hl.1 rfl (lv_room (Nat.le_of_ble_eq_true rfl)) dL_law_994 ⟨by show _ ≤ 600000; omega, by show _ ≤ 7302250; omega⟩) (fun v hp => ?_)
    rcases hp with ⟨rfl, q13⟩ | ⟨rfl, q14, q15⟩ | ⟨rfl, q16, q17, q18⟩ | ⟨x19, rfl, q20, q21⟩
    · refine lv_pop2_2 hx hb dL_law_997 rfl ?_
      refine lv_goto (tgt := 1187) hx hb dL_law_998 (by decide) ?_
      refine W.widen (k := k + 20) (n := n + 80) (by first | omega | (show _ ≤ _; omega)) (by first | omega | (show _ ≤ _; omega)) ?_
      exact hk9 _ _ _ ⟨G1, rx, rm, pnx, pcx, ksx, scx, udm, kym, lom, wkm, dkm, lnm, smm, fim, bem, rkm, rlm, rwm, clm, dgm, fq, la, sz9, fla, fsz, th, tt, fth, hH, hGe1, wx, wm, gx, gm, Rx, vx, ⟨by first | decide | omega, by first | decide | omega⟩, vq, hRK, Rm, vm, ⟨by first | decide | omega, by first | decide | omega⟩, ⟨by first | decide | omega, by first | decide | omega⟩, ⟨by first | decide | omega, by first | decide | omega⟩, ⟨by first | decide | omega, by first | decide | omega⟩, ⟨by first | decide | omega, by first | decide | omega⟩, ⟨by first | decide | omega, by first | decide | omega⟩, ⟨by first | decide | omega, by first | decide | omega⟩, ⟨by first | decide | omega, by first | decide | omega⟩, ⟨by first | decide | omega, by first | decide | omega⟩, ⟨by first | decide | omega, by first | decide | omega⟩, ⟨by first | decide | omega, by first | decide | omega⟩, ⟨by first | decide | omega, by first | decide | omega⟩, vla, vsz, qsz, hrel, vth, hrt⟩ hS hl
    · refine lv_pop2_2 hx hb dL_law_997 rfl ?_
      refine lv_goto (tgt := 1187) hx hb dL_law_998 (by decide) ?_
      refine W.widen (k := k + 20) (n := n + 80) (by first | omega | (show _ ≤ _; omega)) (by first | omega | (show _ ≤ _; omega)) ?_
      exact hk9 _ _ _ ⟨G1, rx, rm, pnx, pcx, ksx, scx, udm, kym, lom, wkm, dkm, lnm, smm, fim, bem, rkm, rlm, rwm, clm, dgm, fq, la, sz9, fla, fsz, th, tt, fth, hH, hGe1, wx, wm, gx, gm, Rx, vx, ⟨by first | decide | omega, by first | decide | omega⟩, vq, hRK, Rm, vm, ⟨by first | decide | omega, by first | decide | omega⟩, ⟨by first | decide | omega, by first | decide | omega⟩, ⟨by first | decide | omega, by first | decide | omega⟩, ⟨by first | decide | omega, by first | decide | omega⟩, ⟨by first | decide | omega, by first | decide | omega⟩, ⟨by first | decide | omega, by first | decide | omega⟩, ⟨by first | decide | omega, by first | decide | omega⟩, ⟨by first | decide | omega, by first | decide | omega⟩, ⟨by first | decide | omega, by first | decide | omega⟩, ⟨by first | decide | omega, by first | decide | omega⟩, ⟨by first | decide | omega, by first | decide | omega⟩, ⟨by first | decide | omega, by first | decide | omega⟩, vla, vsz, qsz, hrel, vth, hrt⟩ hS hl
    · refine lv_pop2_2 hx hb dL_law_997 rfl ?_
      refine lv_goto (tgt := 1187) hx hb dL_law_998 (by decide) ?_
      refine W.widen (k := k + 20) (n := n + 80) (by first | omega | (show _ ≤ _; omega)) (by first | omega | (show _ ≤ _; omega)) ?_
      exact hk9 _ _ _ ⟨G1, rx, rm, pnx, pcx, ksx, scx, udm, kym, lom, wkm, dkm, lnm, smm, fim, bem, rkm, rlm, rwm, clm, dgm, fq, la, sz9, fla, fsz, th, tt, fth, hH, hGe1, wx, wm, gx, gm, Rx, vx, ⟨by first | decide | omega, by first | decide | omega⟩, vq, hRK, Rm, vm, ⟨by first | decide | omega, by first | decide | omega⟩, ⟨by first | decide | omega, by first | decide | omega⟩, ⟨by first | decide | omega, by first | decide | omega⟩, ⟨by first | decide | omega, by first | decide | omega⟩, ⟨by first | decide | omega, by first | decide | omega⟩, ⟨by first | decide | omega, by first | decide | omega⟩, ⟨by first | decide | omega, by first | decide | omega⟩, ⟨by first | decide | omega, by first | decide | omega⟩, ⟨by first | decide | omega, by first | decide | omega⟩, ⟨by first | decide | omega, by first | decide | omega⟩, ⟨by first | decide | omega, by first | decide | omega⟩, ⟨by first | decide | omega, by first | decide | omega⟩, vla, vsz, qsz, hrel, vth, hrt⟩ hS hl
    · refine lv_pop2_2 hx hb dL_law_997 rfl ?_
      refine lv_goto (tgt := 1187) hx hb dL_law_998 (by decide) ?_
      refine W.widen (k := k + 20) (n := n + 80) (by first | omega | (show _ ≤ _; omega)) (by first | omega | (show _ ≤ _; omega)) ?_
      exact hk9 _ _ _ ⟨G1, rx, rm, pnx, pcx, ksx, scx, udm, kym, lom, wkm, dkm, lnm, smm, fim, bem, rkm, rlm, rwm, clm, dgm, fq, la, sz9, fla, fsz, th, tt, fth, hH, hGe1, wx, wm, gx, gm, Rx, vx, ⟨by first | decide | omega, by first | decide | omega⟩, vq, hRK, Rm, vm, ⟨by first | decide | omega, by first | decide | omega⟩, ⟨by first | decide | omega, by first | decide | omega⟩, ⟨by first | decide | omega, by first | decide | omega⟩, ⟨by first | decide | omega, by first | decide | omega⟩, ⟨by first | decide | omega, by first | decide | omega⟩, ⟨by first | decide | omega, by first | decide | omega⟩, ⟨by first | decide | omega, by first | decide | omega⟩, ⟨by first | decide | omega, by first | decide | omega⟩, ⟨by first | decide | omega, by first | decide | omega⟩, ⟨by first | decide | omega, by first | decide | omega⟩, ⟨by first | decide | omega, by first | decide | omega⟩, ⟨by first | decide | omega, by first | decide | omega⟩, vla, vsz, qsz, hrel, vth, hrt⟩ hS hl
  · have hr22 : 0 ≤ (xs (y3 + 1).toNatClampNeg).toInt ∧ (xs (y3 + 1).toNatClampNeg).toInt ≤ 3 → ((la (xs (y3 + 1).toNatClampNeg).toNatClampNeg).toInt = -1 ↔ (fsz (xs (y3 + 1).toNatClampNeg).toNatClampNeg).toInt < 0) ∧ ((la (xs (y3 + 1).toNatClampNeg).toNatClampNeg).toInt ≠ -1 → (fla (xs (y3 + 1).toNatClampNeg).toNatClampNeg).toInt = (la (xs (y3 + 1).toNatClampNeg).toNatClampNeg).toInt ∧ (fsz (xs (y3 + 1).toNatClampNeg).toNatClampNeg).toInt = (sz9 (xs (y3 + 1).toNatClampNeg).toNatClampNeg).toInt) := fun h9 => hrel _ (hw_i4 h9)
    refine lv_pop2_2 hx hb dL_law_982 rfl ?_
    refine lv_aload_n hx hb dL_law_983 rfl (lv_at hl 1 rfl) ?_
    refine lv_aload_n hx hb dL_law_984 rfl (lv_at hl 3 rfl) ?_
    refine lv_iload_n hx hb dL_law_985 rfl (lv_at hl 0 rfl) ?_
    refine lv_iconst (v := 1) hx hb dL_law_986 (by decide) ?_
    refine lv_iadd hx hb dL_law_987 ?_
    refine va_sld hx hb hX hbl hbA hS (hw_in (by omega) (by omega)) dL_law_988 ?_
    refine lv_aload_n hx hb dL_law_989 rfl (lv_at hl 3 rfl) ?_
    refine lv_iload_n hx hb dL_law_990 rfl (lv_at hl 0 rfl) ?_
    refine lv_iconst (v := 2) hx hb dL_law_991 (by decide) ?_
    refine lv_iadd hx hb dL_law_992 ?_
    refine va_sld hx hb hX hbl hbA hS (hw_in (by omega) (by omega)) dL_law_993 ?_
    refine hw_cR (va_runV (As := [.int (xs (y3 + 1).toNatClampNeg), .int (xs (y3 + 2).toNatClampNeg)]) (rest := []) ⟨hx, hb, hml, hown, hts⟩ (k_X12_look l D G1 mo (xs (y3 + 1).toNatClampNeg) (xs (y3 + 2).toNatClampNeg) _ rm udm kym lom wkm dkm lnm smm fim bem rkm rlm rwm clm dgm fsz gm Rm ⟨by first | decide | omega, by first | decide | omega⟩ ⟨by first | decide | omega, by first | decide | omega⟩ ⟨by first | decide | omega, by first | decide | omega⟩ ⟨by first | decide | omega, by first | decide | omega⟩ ⟨by first | decide | omega, by first | decide | omega⟩ ⟨by first | decide | omega, by first | decide | omega⟩ ⟨by first | decide | omega, by first | decide | omega⟩ ⟨by first | decide | omega, by first | decide | omega⟩ ⟨by first | decide | omega, by first | decide | omega⟩ ⟨by first | decide | omega, by first | decide | omega⟩ ⟨by first | decide | omega, by first | decide | omega⟩ ⟨by first | decide | omega, by first | decide | omega⟩ qsz) (cwV 2 hts gL_law_X12_look rfl rfl rfl (by decide +kernel) ⟨Nat.le_of_ble_eq_true rfl, Nat.le_of_ble_eq_true rfl⟩) (hw_pV (hw_rc (q := (RX12, TX12, 45)) hK vm rfl) hH hK hST hS (by decide) (hw_hG hGe1) ⟨vm, vsz⟩) rfl rfl hl.1 rfl (lv_room (Nat.le_of_ble_eq_true rfl)) dL_law_994 ⟨by show _ ≤ 600000; omega, by show _ ≤ 7302250; omega⟩) (fun v hp => ?_)
    rcases hp with ⟨rfl, q23⟩ | ⟨rfl, q24, q25⟩ | ⟨rfl, q26, q27, q28⟩ | ⟨x29, rfl, q30, q31⟩
    · refine lv_pop2_2 hx hb dL_law_997 rfl ?_
      refine lv_goto (tgt := 1187) hx hb dL_law_998 (by decide) ?_
      refine W.widen (k := k + 20) (n := n + 80) (by first | omega | (show _ ≤ _; omega)) (by first | omega | (show _ ≤ _; omega)) ?_
      exact hk9 _ _ _ ⟨G1, rx, rm, pnx, pcx, ksx, scx, udm, kym, lom, wkm, dkm, lnm, smm, fim, bem, rkm, rlm, rwm, clm, dgm, fq, la, sz9, fla, fsz, th, tt, fth, hH, hGe1, wx, wm, gx, gm, Rx, vx, ⟨by first | decide | omega, by first | decide | omega⟩, vq, hRK, Rm, vm, ⟨by first | decide | omega, by first | decide | omega⟩, ⟨by first | decide | omega, by first | decide | omega⟩, ⟨by first | decide | omega, by first | decide | omega⟩, ⟨by first | decide | omega, by first | decide | omega⟩, ⟨by first | decide | omega, by first | decide | omega⟩, ⟨by first | decide | omega, by first | decide | omega⟩, ⟨by first | decide | omega, by first | decide | omega⟩, ⟨by first | decide | omega, by first | decide | omega⟩, ⟨by first | decide | omega, by first | decide | omega⟩, ⟨by first | decide | omega, by first | decide | omega⟩, ⟨by first | decide | omega, by first | decide | omega⟩, ⟨by first | decide | omega, by first | decide | omega⟩, vla, vsz, qsz, hrel, vth, hrt⟩ hS hl
    · refine lv_pop2_2 hx hb dL_law_997 rfl ?_
      refine lv_goto (tgt := 1187) hx hb dL_law_998 (by decide) ?_
      refine W.widen (k := k + 20) (n := n + 80) (by first | omega | (show _ ≤ _; omega)) (by first | omega | (show _ ≤ _; omega)) ?_
      exact hk9 _ _ _ ⟨G1, rx, rm, pnx, pcx, ksx, scx, udm, kym, lom, wkm, dkm, lnm, smm, fim, bem, rkm, rlm, rwm, clm, dgm, fq, la, sz9, fla, fsz, th, tt, fth, hH, hGe1, wx, wm, gx, gm, Rx, vx, ⟨by first | decide | omega, by first | decide | omega⟩, vq, hRK, Rm, vm, ⟨by first | decide | omega, by first | decide | omega⟩, ⟨by first | decide | omega, by first | decide | omega⟩, ⟨by first | decide | omega, by first | decide | omega⟩, ⟨by first | decide | omega, by first | decide | omega⟩, ⟨by first | decide | omega, by first | decide | omega⟩, ⟨by first | decide | omega, by first | decide | omega⟩, ⟨by first | decide | omega, by first | decide | omega⟩, ⟨by first | decide | omega, by first | decide | omega⟩, ⟨by first | decide | omega, by first | decide | omega⟩, ⟨by first | decide | omega, by first | decide | omega⟩, ⟨by first | decide | omega, by first | decide | omega⟩, ⟨by first | decide | omega, by first | decide | omega⟩, vla, vsz, qsz, hrel, vth, hrt⟩ hS hl
    · refine lv_pop2_2 hx hb dL_law_997 rfl ?_
      refine lv_goto (tgt := 1187) hx hb dL_law_998 (by decide) ?_
      refine W.widen (k := k + 20) (n := n + 80) (by first | omega | (show _ ≤ _; omega)) (by first | omega | (show _ ≤ _; omega)) ?_
      exact hk9 _ _ _ ⟨G1, rx, rm, pnx, pcx, ksx, scx, udm, kym, lom, wkm, dkm, lnm, smm, fim, bem, rkm, rlm, rwm, clm, dgm, fq, la, sz9, fla, fsz, th, tt, fth, hH, hGe1, wx, wm, gx, gm, Rx, vx, ⟨by first | decide | omega, by first | decide | omega⟩, vq, hRK, Rm, vm, ⟨by first | decide | omega, by first | decide | omega⟩, ⟨by first | decide | omega, by first | decide | omega⟩, ⟨by first | decide | omega, by first | decide | omega⟩, ⟨by first | decide | omega, by first | decide | omega⟩, ⟨by first | decide | omega, by first | decide | omega⟩, ⟨by first | decide | omega, by first | decide | omega⟩, ⟨by first | decide | omega, by first | decide | omega⟩, ⟨by first | decide | omega, by first | decide | omega⟩, ⟨by first | decide | omega, by first | decide | omega⟩, ⟨by first | decide | omega, by first | decide | omega⟩, ⟨by first | decide | omega, by first | decide | omega⟩, ⟨by first | decide | omega, by first | decide | omega⟩, vla, vsz, qsz, hrel, vth, hrt⟩ hS hl
    · refine lv_pop2_2 hx hb dL_law_997 rfl ?_
      refine lv_goto (tgt := 1187) hx hb dL_law_998 (by decide) ?_
      refine W.widen (k := k + 20) (n := n + 80) (by first | omega | (show _ ≤ _; omega)) (by first | omega | (show _ ≤ _; omega)) ?_
      exact hk9 _ _ _ ⟨G1, rx, rm, pnx, pcx, ksx, scx, udm, kym, lom, wkm, dkm, lnm, smm, fim, bem, rkm, rlm, rwm, clm, dgm, fq, la, sz9, fla, fsz, th, tt, fth, hH, hGe1, wx, wm, gx, gm, Rx, vx, ⟨by first | decide | omega, by first | decide | omega⟩, vq, hRK, Rm, vm, ⟨by first | decide | omega, by first | decide | omega⟩, ⟨by first | decide | omega, by first | decide | omega⟩, ⟨by first | decide | omega, by first | decide | omega⟩, ⟨by first | decide | omega, by first | decide | omega⟩, ⟨by first | decide | omega, by first | decide | omega⟩, ⟨by first | decide | omega, by first | decide | omega⟩, ⟨by first | decide | omega, by first | decide | omega⟩, ⟨by first | decide | omega, by first | decide | omega⟩, ⟨by first | decide | omega, by first | decide | omega⟩, ⟨by first | decide | omega, by first | decide | omega⟩, ⟨by first | decide | omega, by first | decide | omega⟩, ⟨by first | decide | omega, by first | decide | omega⟩, vla, vsz, qsz, hrel, vth, hrt⟩ hS hl
  · have hr32 : 0 ≤ (xs (y3 + 1).toNatClampNeg).toInt ∧ (xs (y3 + 1).toNatClampNeg).toInt ≤ 3 → ((la (xs (y3 + 1).toNatClampNeg).toNatClampNeg).toInt = -1 ↔ (fsz (xs (y3 + 1).toNatClampNeg).toNatClampNeg).toInt < 0) ∧ ((la (xs (y3 + 1).toNatClampNeg).toNatClampNeg).toInt ≠ -1 → (fla (xs (y3 + 1).toNatClampNeg).toNatClampNeg).toInt = (la (xs (y3 + 1).toNatClampNeg).toNatClampNeg).toInt ∧ (fsz (xs (y3 + 1).toNatClampNeg).toNatClampNeg).toInt = (sz9 (xs (y3 + 1).toNatClampNeg).toNatClampNeg).toInt) := fun h9 => hrel _ (hw_i4 h9)
    refine lv_pop2_2 hx hb dL_law_982 rfl ?_
    refine lv_aload_n hx hb dL_law_983 rfl (lv_at hl 1 rfl) ?_
    refine lv_aload_n hx hb dL_law_984 rfl (lv_at hl 3 rfl) ?_
    refine lv_iload_n hx hb dL_law_985 rfl (lv_at hl 0 rfl) ?_
    refine lv_iconst (v := 1) hx hb dL_law_986 (by decide) ?_
    refine lv_iadd hx hb dL_law_987 ?_
    refine va_sld hx hb hX hbl hbA hS (hw_in (by omega) (by omega)) dL_law_988 ?_
    refine lv_aload_n hx hb dL_law_989 rfl (lv_at hl 3 rfl) ?_
    refine lv_iload_n hx hb dL_law_990 rfl (lv_at hl 0 rfl) ?_
    refine lv_iconst (v := 2) hx hb dL_law_991 (by decide) ?_
    refine lv_iadd hx hb dL_law_992 ?_
    refine va_sld hx hb hX hbl hbA hS (hw_in (by omega) (by omega)) dL_law_993 ?_
    refine hw_cR (va_runV (As := [.int (xs (y3 + 1).toNatClampNeg), .int (xs (y3 + 2).toNatClampNeg)]) (rest := []) ⟨hx, hb, hml, hown, hts⟩ (k_X12_look l D G1 mo (xs (y3 + 1).toNatClampNeg) (xs (y3 + 2).toNatClampNeg) _ rm udm kym lom wkm dkm lnm smm fim bem rkm rlm rwm clm dgm fsz gm Rm ⟨by first | decide | omega, by first | decide | omega⟩ ⟨by first | decide | omega, by first | decide | omega⟩ ⟨by first | decide | omega, by first | decide | omega⟩ ⟨by first | decide | omega, by first | decide | omega⟩ ⟨by first | decide | omega, by first | decide | omega⟩ ⟨by first | decide | omega, by first | decide | omega⟩ ⟨by first | decide | omega, by first | decide | omega⟩ ⟨by first | decide | omega, by first | decide | omega⟩ ⟨by first | decide | omega, by first | decide | omega⟩ ⟨by first | decide | omega, by first | decide | omega⟩ ⟨by first | decide | omega, by first | decide | omega⟩ ⟨by first | decide | omega, by first | decide | omega⟩ qsz) (cwV 2 hts gL_law_X12_look rfl rfl rfl (by decide +kernel) ⟨Nat.le_of_ble_eq_true rfl, Nat.le_of_ble_eq_true rfl⟩) (hw_pV (hw_rc (q := (RX12, TX12, 45)) hK vm rfl) hH hK hST hS (by decide) (hw_hG hGe1) ⟨vm, vsz⟩) rfl rfl hl.1 rfl (lv_room (Nat.le_of_ble_eq_true rfl)) dL_law_994 ⟨by show _ ≤ 600000; omega, by show _ ≤ 7302250; omega⟩) (fun v hp => ?_)
    rcases hp with ⟨rfl, q33⟩ | ⟨rfl, q34, q35⟩ | ⟨rfl, q36, q37, q38⟩ | ⟨x39, rfl, q40, q41⟩
    · refine lv_pop2_2 hx hb dL_law_997 rfl ?_
      refine lv_goto (tgt := 1187) hx hb dL_law_998 (by decide) ?_
      refine W.widen (k := k + 20) (n := n + 80) (by first | omega | (show _ ≤ _; omega)) (by first | omega | (show _ ≤ _; omega)) ?_
      exact hk9 _ _ _ ⟨G1, rx, rm, pnx, pcx, ksx, scx, udm, kym, lom, wkm, dkm, lnm, smm, fim, bem, rkm, rlm, rwm, clm, dgm, fq, la, sz9, fla, fsz, th, tt, fth, hH, hGe1, wx, wm, gx, gm, Rx, vx, ⟨by first | decide | omega, by first | decide | omega⟩, vq, hRK, Rm, vm, ⟨by first | decide | omega, by first | decide | omega⟩, ⟨by first | decide | omega, by first | decide | omega⟩, ⟨by first | decide | omega, by first | decide | omega⟩, ⟨by first | decide | omega, by first | decide | omega⟩, ⟨by first | decide | omega, by first | decide | omega⟩, ⟨by first | decide | omega, by first | decide | omega⟩, ⟨by first | decide | omega, by first | decide | omega⟩, ⟨by first | decide | omega, by first | decide | omega⟩, ⟨by first | decide | omega, by first | decide | omega⟩, ⟨by first | decide | omega, by first | decide | omega⟩, ⟨by first | decide | omega, by first | decide | omega⟩, ⟨by first | decide | omega, by first | decide | omega⟩, vla, vsz, qsz, hrel, vth, hrt⟩ hS hl
    · refine lv_pop2_2 hx hb dL_law_997 rfl ?_
      refine lv_goto (tgt := 1187) hx hb dL_law_998 (by decide) ?_
      refine W.widen (k := k + 20) (n := n + 80) (by first | omega | (show _ ≤ _; omega)) (by first | omega | (show _ ≤ _; omega)) ?_
      exact hk9 _ _ _ ⟨G1, rx, rm, pnx, pcx, ksx, scx, udm, kym, lom, wkm, dkm, lnm, smm, fim, bem, rkm, rlm, rwm, clm, dgm, fq, la, sz9, fla, fsz, th, tt, fth, hH, hGe1, wx, wm, gx, gm, Rx, vx, ⟨by first | decide | omega, by first | decide | omega⟩, vq, hRK, Rm, vm, ⟨by first | decide | omega, by first | decide | omega⟩, ⟨by first | decide | omega, by first | decide | omega⟩, ⟨by first | decide | omega, by first | decide | omega⟩, ⟨by first | decide | omega, by first | decide | omega⟩, ⟨by first | decide | omega, by first | decide | omega⟩, ⟨by first | decide | omega, by first | decide | omega⟩, ⟨by first | decide | omega, by first | decide | omega⟩, ⟨by first | decide | omega, by first | decide | omega⟩, ⟨by first | decide | omega, by first | decide | omega⟩, ⟨by first | decide | omega, by first | decide | omega⟩, ⟨by first | decide | omega, by first | decide | omega⟩, ⟨by first | decide | omega, by first | decide | omega⟩, vla, vsz, qsz, hrel, vth, hrt⟩ hS hl
    · refine lv_pop2_2 hx hb dL_law_997 rfl ?_
      refine lv_goto (tgt := 1187) hx hb dL_law_998 (by decide) ?_
      refine W.widen (k := k + 20) (n := n + 80) (by first | omega | (show _ ≤ _; omega)) (by first | omega | (show _ ≤ _; omega)) ?_
      exact hk9 _ _ _ ⟨G1, rx, rm, pnx, pcx, ksx, scx, udm, kym, lom, wkm, dkm, lnm, smm, fim, bem, rkm, rlm, rwm, clm, dgm, fq, la, sz9, fla, fsz, th, tt, fth, hH, hGe1, wx, wm, gx, gm, Rx, vx, ⟨by first | decide | omega, by first | decide | omega⟩, vq, hRK, Rm, vm, ⟨by first | decide | omega, by first | decide | omega⟩, ⟨by first | decide | omega, by first | decide | omega⟩, ⟨by first | decide | omega, by first | decide | omega⟩, ⟨by first | decide | omega, by first | decide | omega⟩, ⟨by first | decide | omega, by first | decide | omega⟩, ⟨by first | decide | omega, by first | decide | omega⟩, ⟨by first | decide | omega, by first | decide | omega⟩, ⟨by first | decide | omega, by first | decide | omega⟩, ⟨by first | decide | omega, by first | decide | omega⟩, ⟨by first | decide | omega, by first | decide | omega⟩, ⟨by first | decide | omega, by first | decide | omega⟩, ⟨by first | decide | omega, by first | decide | omega⟩, vla, vsz, qsz, hrel, vth, hrt⟩ hS hl
    · refine lv_pop2_2 hx hb dL_law_997 rfl ?_
      refine lv_goto (tgt := 1187) hx hb dL_law_998 (by decide) ?_
      refine W.widen (k := k + 20) (n := n + 80) (by first | omega | (show _ ≤ _; omega)) (by first | omega | (show _ ≤ _; omega)) ?_
      exact hk9 _ _ _ ⟨G1, rx, rm, pnx, pcx, ksx, scx, udm, kym, lom, wkm, dkm, lnm, smm, fim, bem, rkm, rlm, rwm, clm, dgm, fq, la, sz9, fla, fsz, th, tt, fth, hH, hGe1, wx, wm, gx, gm, Rx, vx, ⟨by first | decide | omega, by first | decide | omega⟩, vq, hRK, Rm, vm, ⟨by first | decide | omega, by first | decide | omega⟩, ⟨by first | decide | omega, by first | decide | omega⟩, ⟨by first | decide | omega, by first | decide | omega⟩, ⟨by first | decide | omega, by first | decide | omega⟩, ⟨by first | decide | omega, by first | decide | omega⟩, ⟨by first | decide | omega, by first | decide | omega⟩, ⟨by first | decide | omega, by first | decide | omega⟩, ⟨by first | decide | omega, by first | decide | omega⟩, ⟨by first | decide | omega, by first | decide | omega⟩, ⟨by first | decide | omega, by first | decide | omega⟩, ⟨by first | decide | omega, by first | decide | omega⟩, ⟨by first | decide | omega, by first | decide | omega⟩, vla, vsz, qsz, hrel, vth, hrt⟩ hS hl
  · have hr42 : 0 ≤ (xs (y3 + 1).toNatClampNeg).toInt ∧ (xs (y3 + 1).toNatClampNeg).toInt ≤ 3 → ((la (xs (y3 + 1).toNatClampNeg).toNatClampNeg).toInt = -1 ↔ (fsz (xs (y3 + 1).toNatClampNeg).toNatClampNeg).toInt < 0) ∧ ((la (xs (y3 + 1).toNatClampNeg).toNatClampNeg).toInt ≠ -1 → (fla (xs (y3 + 1).toNatClampNeg).toNatClampNeg).toInt = (la (xs (y3 + 1).toNatClampNeg).toNatClampNeg).toInt ∧ (fsz (xs (y3 + 1).toNatClampNeg).toNatClampNeg).toInt = (sz9 (xs (y3 + 1).toNatClampNeg).toNatClampNeg).toInt) := fun h9 => hrel _ (hw_i4 h9)
    refine lv_pop2_2 hx hb dL_law_982 rfl ?_
    refine lv_aload_n hx hb dL_law_983 rfl (lv_at hl 1 rfl) ?_
    refine lv_aload_n hx hb dL_law_984 rfl (lv_at hl 3 rfl) ?_
    refine lv_iload_n hx hb dL_law_985 rfl (lv_at hl 0 rfl) ?_
    refine lv_iconst (v := 1) hx hb dL_law_986 (by decide) ?_
    refine lv_iadd hx hb dL_law_987 ?_
    refine va_sld hx hb hX hbl hbA hS (hw_in (by omega) (by omega)) dL_law_988 ?_
    refine lv_aload_n hx hb dL_law_989 rfl (lv_at hl 3 rfl) ?_
    refine lv_iload_n hx hb dL_law_990 rfl (lv_at hl 0 rfl) ?_
    refine lv_iconst (v := 2) hx hb dL_law_991 (by decide) ?_
    refine lv_iadd hx hb dL_law_992 ?_
    refine va_sld hx hb hX hbl hbA hS (hw_in (by omega) (by omega)) dL_law_993 ?_
    refine hw_cR (va_runV (As := [.int (xs (y3 + 1).toNatClampNeg), .int (xs (y3 + 2).toNatClampNeg)]) (rest := []) ⟨hx, hb, hml, hown, hts⟩ (k_X12_look l D G1 mo (xs (y3 + 1).toNatClampNeg) (xs (y3 + 2).toNatClampNeg) _ rm udm kym lom wkm dkm lnm smm fim bem rkm rlm rwm clm dgm fsz gm Rm ⟨by first | decide | omega, by first | decide | omega⟩ ⟨by first | decide | omega, by first | decide | omega⟩ ⟨by first | decide | omega, by first | decide | omega⟩ ⟨by first | decide | omega, by first | decide | omega⟩ ⟨by first | decide | omega, by first | decide | omega⟩ ⟨by first | decide | omega, by first | decide | omega⟩ ⟨by first | decide | omega, by first | decide | omega⟩ ⟨by first | decide | omega, by first | decide | omega⟩ ⟨by first | decide | omega, by first | decide | omega⟩ ⟨by first | decide | omega, by first | decide | omega⟩ ⟨by first | decide | omega, by first | decide | omega⟩ ⟨by first | decide | omega, by first | decide | omega⟩ qsz) (cwV 2 hts gL_law_X12_look rfl rfl rfl (by decide +kernel) ⟨Nat.le_of_ble_eq_true rfl, Nat.le_of_ble_eq_true rfl⟩) (hw_pV (hw_rc (q := (RX12, TX12, 45)) hK vm rfl) hH hK hST hS (by decide) (hw_hG hGe1) ⟨vm, vsz⟩) rfl rfl hl.1 rfl (lv_room (Nat.le_of_ble_eq_true rfl)) dL_law_994 ⟨by show _ ≤ 600000; omega, by show _ ≤ 7302250; omega⟩) (fun v hp => ?_)
    rcases hp with ⟨rfl, q43⟩ | ⟨rfl, q44, q45⟩ | ⟨rfl, q46, q47, q48⟩ | ⟨x49, rfl, q50, q51⟩
    · refine lv_pop2_2 hx hb dL_law_997 rfl ?_
      refine lv_goto (tgt := 1187) hx hb dL_law_998 (by decide) ?_
      refine W.widen (k := k + 20) (n := n + 80) (by first | omega | (show _ ≤ _; omega)) (by first | omega | (show _ ≤ _; omega)) ?_
      exact hk9 _ _ _ ⟨G1, rx, rm, pnx, pcx, ksx, scx, udm, kym, lom, wkm, dkm, lnm, smm, fim, bem, rkm, rlm, rwm, clm, dgm, fq, la, sz9, fla, fsz, th, tt, fth, hH, hGe1, wx, wm, gx, gm, Rx, vx, ⟨by first | decide | omega, by first | decide | omega⟩, vq, hRK, Rm, vm, ⟨by first | decide | omega, by first | decide | omega⟩, ⟨by first | decide | omega, by first | decide | omega⟩, ⟨by first | decide | omega, by first | decide | omega⟩, ⟨by first | decide | omega, by first | decide | omega⟩, ⟨by first | decide | omega, by first | decide | omega⟩, ⟨by first | decide | omega, by first | decide | omega⟩, ⟨by first | decide | omega, by first | decide | omega⟩, ⟨by first | decide | omega, by first | decide | omega⟩, ⟨by first | decide | omega, by first | decide | omega⟩, ⟨by first | decide | omega, by first | decide | omega⟩, ⟨by first | decide | omega, by first | decide | omega⟩, ⟨by first | decide | omega, by first | decide | omega⟩, vla, vsz, qsz, hrel, vth, hrt⟩ hS hl
    · refine lv_pop2_2 hx hb dL_law_997 rfl ?_
      refine lv_goto (tgt := 1187) hx hb dL_law_998 (by decide) ?_
      refine W.widen (k := k + 20) (n := n + 80) (by first | omega | (show _ ≤ _; omega)) (by first | omega | (show _ ≤ _; omega)) ?_
      exact hk9 _ _ _ ⟨G1, rx, rm, pnx, pcx, ksx, scx, udm, kym, lom, wkm, dkm, lnm, smm, fim, bem, rkm, rlm, rwm, clm, dgm, fq, la, sz9, fla, fsz, th, tt, fth, hH, hGe1, wx, wm, gx, gm, Rx, vx, ⟨by first | decide | omega, by first | decide | omega⟩, vq, hRK, Rm, vm, ⟨by first | decide | omega, by first | decide | omega⟩, ⟨by first | decide | omega, by first | decide | omega⟩, ⟨by first | decide | omega, by first | decide | omega⟩, ⟨by first | decide | omega, by first | decide | omega⟩, ⟨by first | decide | omega, by first | decide | omega⟩, ⟨by first | decide | omega, by first | decide | omega⟩, ⟨by first | decide | omega, by first | decide | omega⟩, ⟨by first | decide | omega, by first | decide | omega⟩, ⟨by first | decide | omega, by first | decide | omega⟩, ⟨by first | decide | omega, by first | decide | omega⟩, ⟨by first | decide | omega, by first | decide | omega⟩, ⟨by first | decide | omega, by first | decide | omega⟩, vla, vsz, qsz, hrel, vth, hrt⟩ hS hl
    · refine lv_pop2_2 hx hb dL_law_997 rfl ?_
      refine lv_goto (tgt := 1187) hx hb dL_law_998 (by decide) ?_
      refine W.widen (k := k + 20) (n := n + 80) (by first | omega | (show _ ≤ _; omega)) (by first | omega | (show _ ≤ _; omega)) ?_
      exact hk9 _ _ _ ⟨G1, rx, rm, pnx, pcx, ksx, scx, udm, kym, lom, wkm, dkm, lnm, smm, fim, bem, rkm, rlm, rwm, clm, dgm, fq, la, sz9, fla, fsz, th, tt, fth, hH, hGe1, wx, wm, gx, gm, Rx, vx, ⟨by first | decide | omega, by first | decide | omega⟩, vq, hRK, Rm, vm, ⟨by first | decide | omega, by first | decide | omega⟩, ⟨by first | decide | omega, by first | decide | omega⟩, ⟨by first | decide | omega, by first | decide | omega⟩, ⟨by first | decide | omega, by first | decide | omega⟩, ⟨by first | decide | omega, by first | decide | omega⟩, ⟨by first | decide | omega, by first | decide | omega⟩, ⟨by first | decide | omega, by first | decide | omega⟩, ⟨by first | decide | omega, by first | decide | omega⟩, ⟨by first | decide | omega, by first | decide | omega⟩, ⟨by first | decide | omega, by first | decide | omega⟩, ⟨by first | decide | omega, by first | decide | omega⟩, ⟨by first | decide | omega, by first | decide | omega⟩, vla, vsz, qsz, hrel, vth, hrt⟩ hS hl
    · refine lv_pop2_2 hx hb dL_law_997 rfl ?_
      refine lv_goto (tgt := 1187) hx hb dL_law_998 (by decide) ?_
      refine W.widen (k := k + 20) (n := n + 80) (by first | omega | (show _ ≤ _; omega)) (by first | omega | (show _ ≤ _; omega)) ?_
      exact hk9 _ _ _ ⟨G1, rx, rm, pnx, pcx, ksx, scx, udm, kym, lom, wkm, dkm, lnm, smm, fim, bem, rkm, rlm, rwm, clm, dgm, fq, la, sz9, fla, fsz, th, tt, fth, hH, hGe1, wx, wm, gx, gm, Rx, vx, ⟨by first | decide | omega, by first | decide | omega⟩, vq, hRK, Rm, vm, ⟨by first | decide | omega, by first | decide | omega⟩, ⟨by first | decide | omega, by first | decide | omega⟩, ⟨by first | decide | omega, by first | decide | omega⟩, ⟨by first | decide | omega, by first | decide | omega⟩, ⟨by first | decide | omega, by first | decide | omega⟩, ⟨by first | decide | omega, by first | decide | omega⟩, ⟨by first | decide | omega, by first | decide | omega⟩, ⟨by first | decide | omega, by first | decide | omega⟩, ⟨by first | decide | omega, by first | decide | omega⟩, ⟨by first | decide | omega, by first | decide | omega⟩, ⟨by first | decide | omega, by first | decide | omega⟩, ⟨by first | decide | omega, by first | decide | omega⟩, vla, vsz, qsz, hrel, vth, hrt⟩ hS hl

set_option maxHeartbeats 40000000 in
set_option maxRecDepth 100000 in
theorem hw_case1001 {p : Program} {e : Env} {s : State} {m : MethodId} {below : List Frame} {meth : Method} {c : Code} (l : Launch) {b L : Nat} {xs : Nat → Int32} {D : hw_D} {G : Nat → Nat} {H : Heap} {locs : List Loc} {x mo k n : Nat} {y3 : Int32} {ls : Array Slot} (hL : L ≤ 384) (hy0 : 0 ≤ y3.toInt ∧ y3.toInt ≤ 384) (hy : y3.toInt + 6 ≤ L) (hkc : k + 20 ≤ 600000) (hnc : n + 80 ≤ 7302250) (hx : p.tables.exec = Jvm.exec) (hb : c.code = code) (hr : meth.sig.returnType = ret) (hml : c.maxLocals = 4) (hown : s.vm.findClass R_law = some m.cls) (hts0 : ∀ w ∈ lw_tbl, w.before #[Value.ref b] s = true) (hts : ∀ w ∈ wsL_law, w.before #[Value.ref b] s = true) (hX : va_X b L xs s s.heap) (hbl : b < s.heap.size) (hlocks : meth.locks = false) (hG0 : G = fun _ => 0) (hK : va_K D.1 vwCl (hw_ty D.2.1) s) (hST : hw_ST D.2.2 G s.heap.size s) (hI : hw_I D G s H x mo) (hS : va_S (hw_AW G [1, 2, 3, 4, 5, 6, 7, 8, 9, 10, 11, 12, 13, 14, 15, 16, 17, 18, 19, 20, 21, 22, 23, 24, 25, 26, 27, 28, 29, 30, 31, 32, 40, 42, 44, 45, 46, 48, 49, 50, 51, 53, 55, 58, 59, 67, 68, 69, 70, 71, 72, 73, 74, 75, 76, 77, 78, 79, 80, 81, 82, 83, 84, 101, 102, 103, 104, 105, 106, 107, 108, 109, 127, 128, 129, 132] s.heap.size) s.heap H locs) (hl : lv_has ls 4 [(3, .int y3), (2, .ref mo), (1, .ref x), (0, .ref b)]) (hk9 : ∀ (H1 : Heap) (locs1 : List Loc) (ls1 : Array Slot), hw_I D G s H1 x mo → va_S (hw_AW G [1, 2, 3, 4, 5, 6, 7, 8, 9, 10, 11, 12, 13, 14, 15, 16, 17, 18, 19, 20, 21, 22, 23, 24, 25, 26, 27, 28, 29, 30, 31, 32, 40, 42, 44, 45, 46, 48, 49, 50, 51, 53, 55, 58, 59, 67, 68, 69, 70, 71, 72, 73, 74, 75, 76, 77, 78, 79, 80, 81, 82, 83, 84, 101, 102, 103, 104, 105, 106, 107, 108, 109, 127, 128, 129, 132] s.heap.size) s.heap H1 locs1 → lv_has ls1 4 [(3, .int y3), (2, .ref mo), (1, .ref x), (0, .ref b)] → W p l e room_1 s m #[Value.ref b] below meth c H1 locs1 (k + 20) (n + 80) (lw_Z below #[Value.ref b] s) (F0 m 1187 ls1 [])) : W p l e room_1 s m #[Value.ref b] below meth c H locs k n (lw_Z below #[Value.ref b] s) (F0 m 1001 ls []) := by
  have hH0 : hw_HT D G s.heap := fun a h => absurd (by rw [hG0]) h
  have hbA : ¬ (hw_AW G [1, 2, 3, 4, 5, 6, 7, 8, 9, 10, 11, 12, 13, 14, 15, 16, 17, 18, 19, 20, 21, 22, 23, 24, 25, 26, 27, 28, 29, 30, 31, 32, 40, 42, 44, 45, 46, 48, 49, 50, 51, 53, 55, 58, 59, 67, 68, 69, 70, 71, 72, 73, 74, 75, 76, 77, 78, 79, 80, 81, 82, 83, 84, 101, 102, 103, 104, 105, 106, 107, 108, 109, 127, 128, 129, 132] s.heap.size) b := hw_AWn (k := 0) (by rw [hG0]) (by decide) hbl
  have hLi : (Int32.ofNat L).toInt = (L : Int) := nI_toInt (by omega)
  refine hw_I_elim hI ?_
  intro G1 rx rm pnx pcx ksx scx udm kym lom wkm dkm lnm smm fim bem rkm rlm rwm clm dgm fq la sz9 fla fsz th tt fth hH hGe1 wx wm gx gm Rx vx gsc vq hRK Rm vm gm0 gm1 gm2 gm3 gm4 gm5 gm6 gm7 gm8 gm9 gm10 gm11 vla vsz qsz hrel vth hrt
  have hHs := hH0
  have hz24 := hw_hz24 hrel qsz
  have qq := hRK.q
  refine lv_aload_n hx hb dL_law_1001 rfl (lv_at hl 2 rfl) ?_
  refine lv_aload_n hx hb dL_law_1002 rfl (lv_at hl 3 rfl) ?_
  refine lv_iload_n hx hb dL_law_1003 rfl (lv_at hl 0 rfl) ?_
  refine lv_iconst (v := 1) hx hb dL_law_1004 (by decide) ?_
  refine lv_iadd hx hb dL_law_1005 ?_
  have t1 : (y3 + 1).toInt = y3.toInt + 1 := hw_add rfl rfl (by omega) (by omega)
  refine va_sld hx hb hX hbl hbA hS (hw_in (by omega) (by omega)) dL_law_1006 ?_
  refine lv_aload_n hx hb dL_law_1007 rfl (lv_at hl 3 rfl) ?_
  refine lv_iload_n hx hb dL_law_1008 rfl (lv_at hl 0 rfl) ?_
  refine lv_iconst (v := 2) hx hb dL_law_1009 (by decide) ?_
  refine lv_iadd hx hb dL_law_1010 ?_
  have t2 : (y3 + 2).toInt = y3.toInt + 2 := hw_add rfl rfl (by omega) (by omega)
  refine va_sld hx hb hX hbl hbA hS (hw_in (by omega) (by omega)) dL_law_1011 ?_
  refine lv_aload_n hx hb dL_law_1012 rfl (lv_at hl 3 rfl) ?_
  refine lv_iload_n hx hb dL_law_1013 rfl (lv_at hl 0 rfl) ?_
  refine lv_iconst (v := 3) hx hb dL_law_1014 (by decide) ?_
  refine lv_iadd hx hb dL_law_1015 ?_
  have t3 : (y3 + 3).toInt = y3.toInt + 3 := hw_add rfl rfl (by omega) (by omega)
  refine va_sld hx hb hX hbl hbA hS (hw_in (by omega) (by omega)) dL_law_1016 ?_
  refine lv_aload_n hx hb dL_law_1017 rfl (lv_at hl 3 rfl) ?_
  refine lv_iload_n hx hb dL_law_1018 rfl (lv_at hl 0 rfl) ?_
  refine lv_iconst (v := 4) hx hb dL_law_1019 (by decide) ?_
  refine lv_iadd hx hb dL_law_1020 ?_
  have t4 : (y3 + 4).toInt = y3.toInt + 4 := hw_add rfl rfl (by omega) (by omega)
  refine va_sld hx hb hX hbl hbA hS (hw_in (by omega) (by omega)) dL_law_1021 ?_
  refine lv_aload_n hx hb dL_law_1022 rfl (lv_at hl 3 rfl) ?_
  refine lv_iload_n hx hb dL_law_1023 rfl (lv_at hl 0 rfl) ?_
  refine lv_iconst (v := 5) hx hb dL_law_1024 (by decide) ?_
  refine lv_iadd hx hb dL_law_1025 ?_
  have t5 : (y3 + 5).toInt = y3.toInt + 5 := hw_add rfl rfl (by omega) (by omega)
  refine va_sld hx hb hX hbl hbA hS (hw_in (by omega) (by omega)) dL_law_1026 ?_
  refine hw_cM0 (va_runV (As := [.int (xs (y3 + 1).toNatClampNeg), .int (xs (y3 + 2).toNatClampNeg), .int (xs (y3 + 3).toNatClampNeg), .int (xs (y3 + 4).toNatClampNeg), .int (xs (y3 + 5).toNatClampNeg)]) (rest := []) ⟨hx, hb, hml, hown, hts⟩ (k3_X11_copy l D G1 x (xs (y3 + 1).toNatClampNeg) (xs (y3 + 2).toNatClampNeg) (xs (y3 + 3).toNatClampNeg) (xs (y3 + 4).toNatClampNeg) (xs (y3 + 5).toNatClampNeg) _ th la sz9 tt rx pnx pcx ksx scx fq gx Rx ⟨by first | decide | omega, by first | decide | omega⟩ qq (by first | assumption | decide | omega)) (cwV 5 hts gL_law_X11_copy rfl rfl rfl (by decide +kernel) ⟨Nat.le_of_ble_eq_true rfl, Nat.le_of_ble_eq_true rfl⟩) (hw_pV (hw_rc (q := (RX11, TX11, 14)) hK vx rfl) hH hK hST hS (by decide) (hw_hG hGe1) ⟨vx, vq, hRK⟩) rfl rfl hl.1 rfl (lv_room (Nat.le_of_ble_eq_true rfl)) dL_law_1027 ⟨by show _ ≤ 600000; omega, by show _ ≤ 7302250; omega⟩) hS (hw_AWsub (by decide) hGe1 hS.1) (fun v H locs hp hz hk hS => ?_)
  rcases hp with ⟨rfl, hH, hRK, v6, v7, q8⟩ | ⟨rfl, hH, hRK, v9, v10, q11, q12, q13⟩ | ⟨rfl, hH, hRK, v14, v15, q16, q17, q18, q19, q20⟩ | ⟨rfl, hH, hRK, v21, v22, q23, q24, q25, q26, q27, q28⟩ | ⟨x29, f30, rfl, hH, hRK, v31, v32, q33, q34, q35, q36, q37, q38, q39, q40, q41⟩
  · have vm := va_at.kept vm (hk _ (hw_lt vm) (hw_AWn gm (by decide) (hw_lt vm)))
    have vla := va_at.kept vla (hk _ (hw_lt vla) (hw_AWn (hw_RM_41 Rm) (by decide) (hw_lt vla)))
    have vsz := va_at.kept vsz (hk _ (hw_lt vsz) (hw_AWn (hw_RM_42 Rm) (by decide) (hw_lt vsz)))
    have vth := va_at.kept vth (hk _ (hw_lt vth) (hw_AWn (hw_RM_43 Rm) (by decide) (hw_lt vth)))
    have hr42 : 0 ≤ (xs (y3 + 1).toNatClampNeg).toInt ∧ (xs (y3 + 1).toNatClampNeg).toInt ≤ 3 → ((la (xs (y3 + 1).toNatClampNeg).toNatClampNeg).toInt = -1 ↔ (fsz (xs (y3 + 1).toNatClampNeg).toNatClampNeg).toInt < 0) ∧ ((la (xs (y3 + 1).toNatClampNeg).toNatClampNeg).toInt ≠ -1 → (fla (xs (y3 + 1).toNatClampNeg).toNatClampNeg).toInt = (la (xs (y3 + 1).toNatClampNeg).toNatClampNeg).toInt ∧ (fsz (xs (y3 + 1).toNatClampNeg).toNatClampNeg).toInt = (sz9 (xs (y3 + 1).toNatClampNeg).toNatClampNeg).toInt) := fun h9 => hrel _ (hw_i4 h9)
    have hr43 : 0 ≤ (xs (y3 + 3).toNatClampNeg).toInt ∧ (xs (y3 + 3).toNatClampNeg).toInt ≤ 3 → ((la (xs (y3 + 3).toNatClampNeg).toNatClampNeg).toInt = -1 ↔ (fsz (xs (y3 + 3).toNatClampNeg).toNatClampNeg).toInt < 0) ∧ ((la (xs (y3 + 3).toNatClampNeg).toNatClampNeg).toInt ≠ -1 → (fla (xs (y3 + 3).toNatClampNeg).toNatClampNeg).toInt = (la (xs (y3 + 3).toNatClampNeg).toNatClampNeg).toInt ∧ (fsz (xs (y3 + 3).toNatClampNeg).toNatClampNeg).toInt = (sz9 (xs (y3 + 3).toNatClampNeg).toNatClampNeg).toInt) := fun h9 => hrel _ (hw_i4 h9)
    refine lv_pop hx hb dL_law_1030 rfl ?_
    refine lv_aload_n hx hb dL_law_1031 rfl (lv_at hl 1 rfl) ?_
    refine lv_aload_n hx hb dL_law_1032 rfl (lv_at hl 3 rfl) ?_
    refine lv_iload_n hx hb dL_law_1033 rfl (lv_at hl 0 rfl) ?_
    refine lv_iconst (v := 1) hx hb dL_law_1034 (by decide) ?_
    refine lv_iadd hx hb dL_law_1035 ?_
    refine va_sld hx hb hX hbl hbA hS (hw_in (by omega) (by omega)) dL_law_1036 ?_
    refine lv_aload_n hx hb dL_law_1037 rfl (lv_at hl 3 rfl) ?_
    refine lv_iload_n hx hb dL_law_1038 rfl (lv_at hl 0 rfl) ?_
    refine lv_iconst (v := 2) hx hb dL_law_1039 (by decide) ?_
    refine lv_iadd hx hb dL_law_1040 ?_
    refine va_sld hx hb hX hbl hbA hS (hw_in (by omega) (by omega)) dL_law_1041 ?_
    refine lv_aload_n hx hb dL_law_1042 rfl (lv_at hl 3 rfl) ?_
    refine lv_iload_n hx hb dL_law_1043 rfl (lv_at hl 0 rfl) ?_
    refine lv_iconst (v := 3) hx hb dL_law_1044 (by decide) ?_
    refine lv_iadd hx hb dL_law_1045 ?_
    refine va_sld hx hb hX hbl hbA hS (hw_in (by omega) (by omega)) dL_law_1046 ?_
    refine lv_aload_n hx hb dL_law_1047 rfl (lv_at hl 3 rfl) ?_
    refine lv_iload_n hx hb dL_law_1048 rfl (lv_at hl 0 rfl) ?_
    refine lv_iconst (v := 4) hx hb dL_law_1049 (by decide) ?_
    refine lv_iadd hx hb dL_law_1050 ?_
    refine va_sld hx hb hX hbl hbA hS (hw_in (by omega) (by omega)) dL_law_1051 ?_
    refine lv_aload_n hx hb dL_law_1052 rfl (lv_at hl 3 rfl) ?_
    refine lv_iload_n hx hb dL_law_1053 rfl (lv_at hl 0 rfl) ?_
    refine lv_iconst (v := 5) hx hb dL_law_1054 (by decide) ?_
    refine lv_iadd hx hb dL_law_1055 ?_
    refine va_sld hx hb hX hbl hbA hS (hw_in (by omega) (by omega)) dL_law_1056 ?_
    obtain ⟨f44, v45⟩ := hH.a84 (hw_RM_44 Rm)
    refine hw_cM0 (va_runV (As := [.int (xs (y3 + 1).toNatClampNeg), .int (xs (y3 + 2).toNatClampNeg), .int (xs (y3 + 3).toNatClampNeg), .int (xs (y3 + 4).toNatClampNeg), .int (xs (y3 + 5).toNatClampNeg)]) (rest := []) ⟨hx, hb, hml, hown, hts⟩ (k3_X12_copy l D G1 mo (xs (y3 + 1).toNatClampNeg) (xs (y3 + 2).toNatClampNeg) (xs (y3 + 3).toNatClampNeg) (xs (y3 + 4).toNatClampNeg) (xs (y3 + 5).toNatClampNeg) _ rm udm kym lom wkm dkm lnm smm fim bem rkm rlm rwm clm dgm fla fsz fth f44 gm Rm ⟨by first | decide | omega, by first | decide | omega⟩ ⟨by first | decide | omega, by first | decide | omega⟩ ⟨by first | decide | omega, by first | decide | omega⟩ ⟨by first | decide | omega, by first | decide | omega⟩ ⟨by first | decide | omega, by first | decide | omega⟩ ⟨by first | decide | omega, by first | decide | omega⟩ ⟨by first | decide | omega, by first | decide | omega⟩ ⟨by first | decide | omega, by first | decide | omega⟩ ⟨by first | decide | omega, by first | decide | omega⟩ ⟨by first | decide | omega, by first | decide | omega⟩ ⟨by first | decide | omega, by first | decide | omega⟩ ⟨by first | decide | omega, by first | decide | omega⟩ qsz) (cwV 5 hts gL_law_X12_copy rfl rfl rfl (by decide +kernel) ⟨Nat.le_of_ble_eq_true rfl, Nat.le_of_ble_eq_true rfl⟩) (hw_pV (hw_rc (q := (RX12, TX12, 45)) hK vm rfl) hH hK hST hS (by decide) (hw_hG hGe1) ⟨vm, vla, vsz, vth, v45⟩) rfl rfl hl.1 rfl (lv_room (Nat.le_of_ble_eq_true rfl)) dL_law_1057 ⟨by show _ ≤ 600000; omega, by show _ ≤ 7302250; omega⟩) hS (hw_AWsub (by decide) hGe1 hS.1) (fun v H locs hp hz hk hS => ?_)
    rcases hp with ⟨f47, f48, rfl, hH, v49, v50, v51, v52, v53, q54, q55⟩ | ⟨f56, f57, rfl, hH, v58, v59, v60, v61, v62, q63, q64, q65, q66⟩ | ⟨f67, f68, rfl, hH, v69, v70, v71, v72, v73, q74, q75, q76, q77, q78, q79⟩ | ⟨f80, f81, rfl, hH, v82, v83, v84, v85, v86, q87, q88, q89, q90, q91, q92, q93⟩ | ⟨x94, f95, f96, rfl, hH, v97, v98, v99, v100, v101, q102, q103, q104, q105, q106, q107, q108, q109⟩
    · have hRK := hw_RK3.kept hRK (fun q9 h9 l9 => hk q9 l9 (by rcases h9 with h9 | h9 <;> exact hw_AWn h9 (by decide) l9))
      have v6 := va_at.kept v6 (hk _ (hw_lt v6) (hw_AWn gx (by decide) (hw_lt v6)))
      have v7 := va_at.kept v7 (hk _ (hw_lt v7) (hw_AWn (hw_RX_13 Rx) (by decide) (hw_lt v7)))
      refine lv_pop hx hb dL_law_1060 rfl ?_
      refine lv_goto (tgt := 1187) hx hb dL_law_1061 (by decide) ?_
      refine W.widen (k := k + 20) (n := n + 80) (by first | omega | (show _ ≤ _; omega)) (by first | omega | (show _ ≤ _; omega)) ?_
      exact hk9 _ _ _ ⟨G1, rx, rm, pnx, pcx, ksx, scx, udm, kym, lom, wkm, dkm, lnm, smm, fim, bem, rkm, rlm, rwm, clm, dgm, fq, la, sz9, fla, fsz, th, tt, f47, hH, hGe1, wx, wm, gx, gm, Rx, v6, ⟨by first | decide | omega, by first | decide | omega⟩, v7, hRK, Rm, v49, ⟨by first | decide | omega, by first | decide | omega⟩, ⟨by first | decide | omega, by first | decide | omega⟩, ⟨by first | decide | omega, by first | decide | omega⟩, ⟨by first | decide | omega, by first | decide | omega⟩, ⟨by first | decide | omega, by first | decide | omega⟩, ⟨by first | decide | omega, by first | decide | omega⟩, ⟨by first | decide | omega, by first | decide | omega⟩, ⟨by first | decide | omega, by first | decide | omega⟩, ⟨by first | decide | omega, by first | decide | omega⟩, ⟨by first | decide | omega, by first | decide | omega⟩, ⟨by first | decide | omega, by first | decide | omega⟩, ⟨by first | decide | omega, by first | decide | omega⟩, v50, v51, qsz, hrel, v52, (by rw [q55]; exact hrt)⟩ hS hl
    · have hRK := hw_RK3.kept hRK (fun q9 h9 l9 => hk q9 l9 (by rcases h9 with h9 | h9 <;> exact hw_AWn h9 (by decide) l9))
      have v6 := va_at.kept v6 (hk _ (hw_lt v6) (hw_AWn gx (by decide) (hw_lt v6)))
      have v7 := va_at.kept v7 (hk _ (hw_lt v7) (hw_AWn (hw_RX_13 Rx) (by decide) (hw_lt v7)))
      refine lv_pop hx hb dL_law_1060 rfl ?_
      refine lv_goto (tgt := 1187) hx hb dL_law_1061 (by decide) ?_
      refine W.widen (k := k + 20) (n := n + 80) (by first | omega | (show _ ≤ _; omega)) (by first | omega | (show _ ≤ _; omega)) ?_
      exact hk9 _ _ _ ⟨G1, rx, rm, pnx, pcx, ksx, scx, udm, kym, lom, wkm, dkm, lnm, smm, fim, bem, rkm, rlm, rwm, clm, dgm, fq, la, sz9, fla, fsz, th, tt, f56, hH, hGe1, wx, wm, gx, gm, Rx, v6, ⟨by first | decide | omega, by first | decide | omega⟩, v7, hRK, Rm, v58, ⟨by first | decide | omega, by first | decide | omega⟩, ⟨by first | decide | omega, by first | decide | omega⟩, ⟨by first | decide | omega, by first | decide | omega⟩, ⟨by first | decide | omega, by first | decide | omega⟩, ⟨by first | decide | omega, by first | decide | omega⟩, ⟨by first | decide | omega, by first | decide | omega⟩, ⟨by first | decide | omega, by first | decide | omega⟩, ⟨by first | decide | omega, by first | decide | omega⟩, ⟨by first | decide | omega, by first | decide | omega⟩, ⟨by first | decide | omega, by first | decide | omega⟩, ⟨by first | decide | omega, by first | decide | omega⟩, ⟨by first | decide | omega, by first | decide | omega⟩, v59, v60, qsz, hrel, v61, (by rw [q66]; exact hrt)⟩ hS hl
    · have hRK := hw_RK3.kept hRK (fun q9 h9 l9 => hk q9 l9 (by rcases h9 with h9 | h9 <;> exact hw_AWn h9 (by decide) l9))
      have v6 := va_at.kept v6 (hk _ (hw_lt v6) (hw_AWn gx (by decide) (hw_lt v6)))
      have v7 := va_at.kept v7 (hk _ (hw_lt v7) (hw_AWn (hw_RX_13 Rx) (by decide) (hw_lt v7)))
      refine lv_pop hx hb dL_law_1060 rfl ?_
      refine lv_goto (tgt := 1187) hx hb dL_law_1061 (by decide) ?_
      refine W.widen (k := k + 20) (n := n + 80) (by first | omega | (show _ ≤ _; omega)) (by first | omega | (show _ ≤ _; omega)) ?_
      exact hk9 _ _ _ ⟨G1, rx, rm, pnx, pcx, ksx, scx, udm, kym, lom, wkm, dkm, lnm, smm, fim, bem, rkm, rlm, rwm, clm, dgm, fq, la, sz9, fla, fsz, th, tt, f67, hH, hGe1, wx, wm, gx, gm, Rx, v6, ⟨by first | decide | omega, by first | decide | omega⟩, v7, hRK, Rm, v69, ⟨by first | decide | omega, by first | decide | omega⟩, ⟨by first | decide | omega, by first | decide | omega⟩, ⟨by first | decide | omega, by first | decide | omega⟩, ⟨by first | decide | omega, by first | decide | omega⟩, ⟨by first | decide | omega, by first | decide | omega⟩, ⟨by first | decide | omega, by first | decide | omega⟩, ⟨by first | decide | omega, by first | decide | omega⟩, ⟨by first | decide | omega, by first | decide | omega⟩, ⟨by first | decide | omega, by first | decide | omega⟩, ⟨by first | decide | omega, by first | decide | omega⟩, ⟨by first | decide | omega, by first | decide | omega⟩, ⟨by first | decide | omega, by first | decide | omega⟩, v70, v71, qsz, hrel, v72, (by rw [q79]; exact hrt)⟩ hS hl
    · have hRK := hw_RK3.kept hRK (fun q9 h9 l9 => hk q9 l9 (by rcases h9 with h9 | h9 <;> exact hw_AWn h9 (by decide) l9))
      have v6 := va_at.kept v6 (hk _ (hw_lt v6) (hw_AWn gx (by decide) (hw_lt v6)))
      have v7 := va_at.kept v7 (hk _ (hw_lt v7) (hw_AWn (hw_RX_13 Rx) (by decide) (hw_lt v7)))
      refine lv_pop hx hb dL_law_1060 rfl ?_
      refine lv_goto (tgt := 1187) hx hb dL_law_1061 (by decide) ?_
      refine W.widen (k := k + 20) (n := n + 80) (by first | omega | (show _ ≤ _; omega)) (by first | omega | (show _ ≤ _; omega)) ?_
      exact hk9 _ _ _ ⟨G1, rx, rm, pnx, pcx, ksx, scx, udm, kym, lom, wkm, dkm, lnm, smm, fim, bem, rkm, rlm, rwm, clm, dgm, fq, la, sz9, fla, fsz, th, tt, f80, hH, hGe1, wx, wm, gx, gm, Rx, v6, ⟨by first | decide | omega, by first | decide | omega⟩, v7, hRK, Rm, v82, ⟨by first | decide | omega, by first | decide | omega⟩, ⟨by first | decide | omega, by first | decide | omega⟩, ⟨by first | decide | omega, by first | decide | omega⟩, ⟨by first | decide | omega, by first | decide | omega⟩, ⟨by first | decide | omega, by first | decide | omega⟩, ⟨by first | decide | omega, by first | decide | omega⟩, ⟨by first | decide | omega, by first | decide | omega⟩, ⟨by first | decide | omega, by first | decide | omega⟩, ⟨by first | decide | omega, by first | decide | omega⟩, ⟨by first | decide | omega, by first | decide | omega⟩, ⟨by first | decide | omega, by first | decide | omega⟩, ⟨by first | decide | omega, by first | decide | omega⟩, v83, v84, qsz, hrel, v85, (by rw [q93]; exact hrt)⟩ hS hl
    · have q108i := hw_ieq q108
      have hRK := hw_RK3.kept hRK (fun q9 h9 l9 => hk q9 l9 (by rcases h9 with h9 | h9 <;> exact hw_AWn h9 (by decide) l9))
      have v6 := va_at.kept v6 (hk _ (hw_lt v6) (hw_AWn gx (by decide) (hw_lt v6)))
      have v7 := va_at.kept v7 (hk _ (hw_lt v7) (hw_AWn (hw_RX_13 Rx) (by decide) (hw_lt v7)))
      refine lv_pop hx hb dL_law_1060 rfl ?_
      refine lv_goto (tgt := 1187) hx hb dL_law_1061 (by decide) ?_
      refine W.widen (k := k + 20) (n := n + 80) (by first | omega | (show _ ≤ _; omega)) (by first | omega | (show _ ≤ _; omega)) ?_
      exact hk9 _ _ _ ⟨G1, rx, rm, pnx, pcx, ksx, scx, udm, kym, lom, wkm, dkm, lnm, smm, fim, bem, rkm, rlm, rwm, clm, dgm, fq, la, sz9, fla, fsz, th, tt, f95, hH, hGe1, wx, wm, gx, gm, Rx, v6, ⟨by first | decide | omega, by first | decide | omega⟩, v7, hRK, Rm, v97, ⟨by first | decide | omega, by first | decide | omega⟩, ⟨by first | decide | omega, by first | decide | omega⟩, ⟨by first | decide | omega, by first | decide | omega⟩, ⟨by first | decide | omega, by first | decide | omega⟩, ⟨by first | decide | omega, by first | decide | omega⟩, ⟨by first | decide | omega, by first | decide | omega⟩, ⟨by first | decide | omega, by first | decide | omega⟩, ⟨by first | decide | omega, by first | decide | omega⟩, ⟨by first | decide | omega, by first | decide | omega⟩, ⟨by first | decide | omega, by first | decide | omega⟩, ⟨by first | decide | omega, by first | decide | omega⟩, ⟨by first | decide | omega, by first | decide | omega⟩, v98, v99, qsz, hrel, v100, (by exfalso; omega)⟩ hS hl
  · have vm := va_at.kept vm (hk _ (hw_lt vm) (hw_AWn gm (by decide) (hw_lt vm)))
    have vla := va_at.kept vla (hk _ (hw_lt vla) (hw_AWn (hw_RM_41 Rm) (by decide) (hw_lt vla)))
    have vsz := va_at.kept vsz (hk _ (hw_lt vsz) (hw_AWn (hw_RM_42 Rm) (by decide) (hw_lt vsz)))
    have vth := va_at.kept vth (hk _ (hw_lt vth) (hw_AWn (hw_RM_43 Rm) (by decide) (hw_lt vth)))
    have hr110 : 0 ≤ (xs (y3 + 1).toNatClampNeg).toInt ∧ (xs (y3 + 1).toNatClampNeg).toInt ≤ 3 → ((la (xs (y3 + 1).toNatClampNeg).toNatClampNeg).toInt = -1 ↔ (fsz (xs (y3 + 1).toNatClampNeg).toNatClampNeg).toInt < 0) ∧ ((la (xs (y3 + 1).toNatClampNeg).toNatClampNeg).toInt ≠ -1 → (fla (xs (y3 + 1).toNatClampNeg).toNatClampNeg).toInt = (la (xs (y3 + 1).toNatClampNeg).toNatClampNeg).toInt ∧ (fsz (xs (y3 + 1).toNatClampNeg).toNatClampNeg).toInt = (sz9 (xs (y3 + 1).toNatClampNeg).toNatClampNeg).toInt) := fun h9 => hrel _ (hw_i4 h9)
    have hr111 : 0 ≤ (xs (y3 + 3).toNatClampNeg).toInt ∧ (xs (y3 + 3).toNatClampNeg).toInt ≤ 3 → ((la (xs (y3 + 3).toNatClampNeg).toNatClampNeg).toInt = -1 ↔ (fsz (xs (y3 + 3).toNatClampNeg).toNatClampNeg).toInt < 0) ∧ ((la (xs (y3 + 3).toNatClampNeg).toNatClampNeg).toInt ≠ -1 → (fla (xs (y3 + 3).toNatClampNeg).toNatClampNeg).toInt = (la (xs (y3 + 3).toNatClampNeg).toNatClampNeg).toInt ∧ (fsz (xs (y3 + 3).toNatClampNeg).toNatClampNeg).toInt = (sz9 (xs (y3 + 3).toNatClampNeg).toNatClampNeg).toInt) := fun h9 => hrel _ (hw_i4 h9)
    refine lv_pop hx hb dL_law_1030 rfl ?_
    refine lv_aload_n hx hb dL_law_1031 rfl (lv_at hl 1 rfl) ?_
    refine lv_aload_n hx hb dL_law_1032 rfl (lv_at hl 3 rfl) ?_
    refine lv_iload_n hx hb dL_law_1033 rfl (lv_at hl 0 rfl) ?_
    refine lv_iconst (v := 1) hx hb dL_law_1034 (by decide) ?_
    refine lv_iadd hx hb dL_law_1035 ?_
    refine va_sld hx hb hX hbl hbA hS (hw_in (by omega) (by omega)) dL_law_1036 ?_
    refine lv_aload_n hx hb dL_law_1037 rfl (lv_at hl 3 rfl) ?_
    refine lv_iload_n hx hb dL_law_1038 rfl (lv_at hl 0 rfl) ?_
    refine lv_iconst (v := 2) hx hb dL_law_1039 (by decide) ?_
    refine lv_iadd hx hb dL_law_1040 ?_
    refine va_sld hx hb hX hbl hbA hS (hw_in (by omega) (by omega)) dL_law_1041 ?_
    refine lv_aload_n hx hb dL_law_1042 rfl (lv_at hl 3 rfl) ?_
    refine lv_iload_n hx hb dL_law_1043 rfl (lv_at hl 0 rfl) ?_
    refine lv_iconst (v := 3) hx hb dL_law_1044 (by decide) ?_
    refine lv_iadd hx hb dL_law_1045 ?_
    refine va_sld hx hb hX hbl hbA hS (hw_in (by omega) (by omega)) dL_law_1046 ?_
    refine lv_aload_n hx hb dL_law_1047 rfl (lv_at hl 3 rfl) ?_
    refine lv_iload_n hx hb dL_law_1048 rfl (lv_at hl 0 rfl) ?_
    refine lv_iconst (v := 4) hx hb dL_law_1049 (by decide) ?_
    refine lv_iadd hx hb dL_law_1050 ?_
    refine va_sld hx hb hX hbl hbA hS (hw_in (by omega) (by omega)) dL_law_1051 ?_
    refine lv_aload_n hx hb dL_law_1052 rfl (lv_at hl 3 rfl) ?_
    refine lv_iload_n hx hb dL_law_1053 rfl (lv_at hl 0 rfl) ?_
    refine lv_iconst (v := 5) hx hb dL_law_1054 (by decide) ?_
    refine lv_iadd hx hb dL_law_1055 ?_
    refine va_sld hx hb hX hbl hbA hS (hw_in (by omega) (by omega)) dL_law_1056 ?_
    obtain ⟨f112, v113⟩ := hH.a84 (hw_RM_44 Rm)
    refine hw_cM0 (va_runV (As := [.int (xs (y3 + 1).toNatClampNeg), .int (xs (y3 + 2).toNatClampNeg), .int (xs (y3 + 3).toNatClampNeg), .int (xs (y3 + 4).toNatClampNeg), .int (xs (y3 + 5).toNatClampNeg)]) (rest := []) ⟨hx, hb, hml, hown, hts⟩ (k3_X12_copy l D G1 mo (xs (y3 + 1).toNatClampNeg) (xs (y3 + 2).toNatClampNeg) (xs (y3 + 3).toNatClampNeg) (xs (y3 + 4).toNatClampNeg) (xs (y3 + 5).toNatClampNeg) _ rm udm kym lom wkm dkm lnm smm fim bem rkm rlm rwm clm dgm fla fsz fth f112 gm Rm ⟨by first | decide | omega, by first | decide | omega⟩ ⟨by first | decide | omega, by first | decide | omega⟩ ⟨by first | decide | omega, by first | decide | omega⟩ ⟨by first | decide | omega, by first | decide | omega⟩ ⟨by first | decide | omega, by first | decide | omega⟩ ⟨by first | decide | omega, by first | decide | omega⟩ ⟨by first | decide | omega, by first | decide | omega⟩ ⟨by first | decide | omega, by first | decide | omega⟩ ⟨by first | decide | omega, by first | decide | omega⟩ ⟨by first | decide | omega, by first | decide | omega⟩ ⟨by first | decide | omega, by first | decide | omega⟩ ⟨by first | decide | omega, by first | decide | omega⟩ qsz) (cwV 5 hts gL_law_X12_copy rfl rfl rfl (by decide +kernel) ⟨Nat.le_of_ble_eq_true rfl, Nat.le_of_ble_eq_true rfl⟩) (hw_pV (hw_rc (q := (RX12, TX12, 45)) hK vm rfl) hH hK hST hS (by decide) (hw_hG hGe1) ⟨vm, vla, vsz, vth, v113⟩) rfl rfl hl.1 rfl (lv_room (Nat.le_of_ble_eq_true rfl)) dL_law_1057 ⟨by show _ ≤ 600000; omega, by show _ ≤ 7302250; omega⟩) hS (hw_AWsub (by decide) hGe1 hS.1) (fun v H locs hp hz hk hS => ?_)
    rcases hp with ⟨f115, f116, rfl, hH, v117, v118, v119, v120, v121, q122, q123⟩ | ⟨f124, f125, rfl, hH, v126, v127, v128, v129, v130, q131, q132, q133, q134⟩ | ⟨f135, f136, rfl, hH, v137, v138, v139, v140, v141, q142, q143, q144, q145, q146, q147⟩ | ⟨f148, f149, rfl, hH, v150, v151, v152, v153, v154, q155, q156, q157, q158, q159, q160, q161⟩ | ⟨x162, f163, f164, rfl, hH, v165, v166, v167, v168, v169, q170, q171, q172, q173, q174, q175, q176, q177⟩
    · have hRK := hw_RK3.kept hRK (fun q9 h9 l9 => hk q9 l9 (by rcases h9 with h9 | h9 <;> exact hw_AWn h9 (by decide) l9))
      have v9 := va_at.kept v9 (hk _ (hw_lt v9) (hw_AWn gx (by decide) (hw_lt v9)))
      have v10 := va_at.kept v10 (hk _ (hw_lt v10) (hw_AWn (hw_RX_13 Rx) (by decide) (hw_lt v10)))
      refine lv_pop hx hb dL_law_1060 rfl ?_
      refine lv_goto (tgt := 1187) hx hb dL_law_1061 (by decide) ?_
      refine W.widen (k := k + 20) (n := n + 80) (by first | omega | (show _ ≤ _; omega)) (by first | omega | (show _ ≤ _; omega)) ?_
      exact hk9 _ _ _ ⟨G1, rx, rm, pnx, pcx, ksx, scx, udm, kym, lom, wkm, dkm, lnm, smm, fim, bem, rkm, rlm, rwm, clm, dgm, fq, la, sz9, fla, fsz, th, tt, f115, hH, hGe1, wx, wm, gx, gm, Rx, v9, ⟨by first | decide | omega, by first | decide | omega⟩, v10, hRK, Rm, v117, ⟨by first | decide | omega, by first | decide | omega⟩, ⟨by first | decide | omega, by first | decide | omega⟩, ⟨by first | decide | omega, by first | decide | omega⟩, ⟨by first | decide | omega, by first | decide | omega⟩, ⟨by first | decide | omega, by first | decide | omega⟩, ⟨by first | decide | omega, by first | decide | omega⟩, ⟨by first | decide | omega, by first | decide | omega⟩, ⟨by first | decide | omega, by first | decide | omega⟩, ⟨by first | decide | omega, by first | decide | omega⟩, ⟨by first | decide | omega, by first | decide | omega⟩, ⟨by first | decide | omega, by first | decide | omega⟩, ⟨by first | decide | omega, by first | decide | omega⟩, v118, v119, qsz, hrel, v120, (by rw [q123]; exact hrt)⟩ hS hl
    · have hRK := hw_RK3.kept hRK (fun q9 h9 l9 => hk q9 l9 (by rcases h9 with h9 | h9 <;> exact hw_AWn h9 (by decide) l9))
      have v9 := va_at.kept v9 (hk _ (hw_lt v9) (hw_AWn gx (by decide) (hw_lt v9)))
      have v10 := va_at.kept v10 (hk _ (hw_lt v10) (hw_AWn (hw_RX_13 Rx) (by decide) (hw_lt v10)))
      refine lv_pop hx hb dL_law_1060 rfl ?_
      refine lv_goto (tgt := 1187) hx hb dL_law_1061 (by decide) ?_
      refine W.widen (k := k + 20) (n := n + 80) (by first | omega | (show _ ≤ _; omega)) (by first | omega | (show _ ≤ _; omega)) ?_
      exact hk9 _ _ _ ⟨G1, rx, rm, pnx, pcx, ksx, scx, udm, kym, lom, wkm, dkm, lnm, smm, fim, bem, rkm, rlm, rwm, clm, dgm, fq, la, sz9, fla, fsz, th, tt, f124, hH, hGe1, wx, wm, gx, gm, Rx, v9, ⟨by first | decide | omega, by first | decide | omega⟩, v10, hRK, Rm, v126, ⟨by first | decide | omega, by first | decide | omega⟩, ⟨by first | decide | omega, by first | decide | omega⟩, ⟨by first | decide | omega, by first | decide | omega⟩, ⟨by first | decide | omega, by first | decide | omega⟩, ⟨by first | decide | omega, by first | decide | omega⟩, ⟨by first | decide | omega, by first | decide | omega⟩, ⟨by first | decide | omega, by first | decide | omega⟩, ⟨by first | decide | omega, by first | decide | omega⟩, ⟨by first | decide | omega, by first | decide | omega⟩, ⟨by first | decide | omega, by first | decide | omega⟩, ⟨by first | decide | omega, by first | decide | omega⟩, ⟨by first | decide | omega, by first | decide | omega⟩, v127, v128, qsz, hrel, v129, (by rw [q134]; exact hrt)⟩ hS hl
    · have hRK := hw_RK3.kept hRK (fun q9 h9 l9 => hk q9 l9 (by rcases h9 with h9 | h9 <;> exact hw_AWn h9 (by decide) l9))
      have v9 := va_at.kept v9 (hk _ (hw_lt v9) (hw_AWn gx (by decide) (hw_lt v9)))
      have v10 := va_at.kept v10 (hk _ (hw_lt v10) (hw_AWn (hw_RX_13 Rx) (by decide) (hw_lt v10)))
      refine lv_pop hx hb dL_law_1060 rfl ?_
      refine lv_goto (tgt := 1187) hx hb dL_law_1061 (by decide) ?_
      refine W.widen (k := k + 20) (n := n + 80) (by first | omega | (show _ ≤ _; omega)) (by first | omega | (show _ ≤ _; omega)) ?_
      exact hk9 _ _ _ ⟨G1, rx, rm, pnx, pcx, ksx, scx, udm, kym, lom, wkm, dkm, lnm, smm, fim, bem, rkm, rlm, rwm, clm, dgm, fq, la, sz9, fla, fsz, th, tt, f135, hH, hGe1, wx, wm, gx, gm, Rx, v9, ⟨by first | decide | omega, by first | decide | omega⟩, v10, hRK, Rm, v137, ⟨by first | decide | omega, by first | decide | omega⟩, ⟨by first | decide | omega, by first | decide | omega⟩, ⟨by first | decide | omega, by first | decide | omega⟩, ⟨by first | decide | omega, by first | decide | omega⟩, ⟨by first | decide | omega, by first | decide | omega⟩, ⟨by first | decide | omega, by first | decide | omega⟩, ⟨by first | decide | omega, by first | decide | omega⟩, ⟨by first | decide | omega, by first | decide | omega⟩, ⟨by first | decide | omega, by first | decide | omega⟩, ⟨by first | decide | omega, by first | decide | omega⟩, ⟨by first | decide | omega, by first | decide | omega⟩, ⟨by first | decide | omega, by first | decide | omega⟩, v138, v139, qsz, hrel, v140, (by rw [q147]; exact hrt)⟩ hS hl
    · have hRK := hw_RK3.kept hRK (fun q9 h9 l9 => hk q9 l9 (by rcases h9 with h9 | h9 <;> exact hw_AWn h9 (by decide) l9))
      have v9 := va_at.kept v9 (hk _ (hw_lt v9) (hw_AWn gx (by decide) (hw_lt v9)))
      have v10 := va_at.kept v10 (hk _ (hw_lt v10) (hw_AWn (hw_RX_13 Rx) (by decide) (hw_lt v10)))
      refine lv_pop hx hb dL_law_1060 rfl ?_
      refine lv_goto (tgt := 1187) hx hb dL_law_1061 (by decide) ?_
      refine W.widen (k := k + 20) (n := n + 80) (by first | omega | (show _ ≤ _; omega)) (by first | omega | (show _ ≤ _; omega)) ?_
      exact hk9 _ _ _ ⟨G1, rx, rm, pnx, pcx, ksx, scx, udm, kym, lom, wkm, dkm, lnm, smm, fim, bem, rkm, rlm, rwm, clm, dgm, fq, la, sz9, fla, fsz, th, tt, f148, hH, hGe1, wx, wm, gx, gm, Rx, v9, ⟨by first | decide | omega, by first | decide | omega⟩, v10, hRK, Rm, v150, ⟨by first | decide | omega, by first | decide | omega⟩, ⟨by first | decide | omega, by first | decide | omega⟩, ⟨by first | decide | omega, by first | decide | omega⟩, ⟨by first | decide | omega, by first | decide | omega⟩, ⟨by first | decide | omega, by first | decide | omega⟩, ⟨by first | decide | omega, by first | decide | omega⟩, ⟨by first | decide | omega, by first | decide | omega⟩, ⟨by first | decide | omega, by first | decide | omega⟩, ⟨by first | decide | omega, by first | decide | omega⟩, ⟨by first | decide | omega, by first | decide | omega⟩, ⟨by first | decide | omega, by first | decide | omega⟩, ⟨by first | decide | omega, by first | decide | omega⟩, v151, v152, qsz, hrel, v153, (by rw [q161]; exact hrt)⟩ hS hl
    · have q176i := hw_ieq q176
      have hRK := hw_RK3.kept hRK (fun q9 h9 l9 => hk q9 l9 (by rcases h9 with h9 | h9 <;> exact hw_AWn h9 (by decide) l9))
      have v9 := va_at.kept v9 (hk _ (hw_lt v9) (hw_AWn gx (by decide) (hw_lt v9)))
      have v10 := va_at.kept v10 (hk _ (hw_lt v10) (hw_AWn (hw_RX_13 Rx) (by decide) (hw_lt v10)))
      refine lv_pop hx hb dL_law_1060 rfl ?_
      refine lv_goto (tgt := 1187) hx hb dL_law_1061 (by decide) ?_
      refine W.widen (k := k + 20) (n := n + 80) (by first | omega | (show _ ≤ _; omega)) (by first | omega | (show _ ≤ _; omega)) ?_
      exact hk9 _ _ _ ⟨G1, rx, rm, pnx, pcx, ksx, scx, udm, kym, lom, wkm, dkm, lnm, smm, fim, bem, rkm, rlm, rwm, clm, dgm, fq, la, sz9, fla, fsz, th, tt, f163, hH, hGe1, wx, wm, gx, gm, Rx, v9, ⟨by first | decide | omega, by first | decide | omega⟩, v10, hRK, Rm, v165, ⟨by first | decide | omega, by first | decide | omega⟩, ⟨by first | decide | omega, by first | decide | omega⟩, ⟨by first | decide | omega, by first | decide | omega⟩, ⟨by first | decide | omega, by first | decide | omega⟩, ⟨by first | decide | omega, by first | decide | omega⟩, ⟨by first | decide | omega, by first | decide | omega⟩, ⟨by first | decide | omega, by first | decide | omega⟩, ⟨by first | decide | omega, by first | decide | omega⟩, ⟨by first | decide | omega, by first | decide | omega⟩, ⟨by first | decide | omega, by first | decide | omega⟩, ⟨by first | decide | omega, by first | decide | omega⟩, ⟨by first | decide | omega, by first | decide | omega⟩, v166, v167, qsz, hrel, v168, (by exfalso; omega)⟩ hS hl
  · have vm := va_at.kept vm (hk _ (hw_lt vm) (hw_AWn gm (by decide) (hw_lt vm)))
    have vla := va_at.kept vla (hk _ (hw_lt vla) (hw_AWn (hw_RM_41 Rm) (by decide) (hw_lt vla)))
    have vsz := va_at.kept vsz (hk _ (hw_lt vsz) (hw_AWn (hw_RM_42 Rm) (by decide) (hw_lt vsz)))
    have vth := va_at.kept vth (hk _ (hw_lt vth) (hw_AWn (hw_RM_43 Rm) (by decide) (hw_lt vth)))
    have hr178 : 0 ≤ (xs (y3 + 1).toNatClampNeg).toInt ∧ (xs (y3 + 1).toNatClampNeg).toInt ≤ 3 → ((la (xs (y3 + 1).toNatClampNeg).toNatClampNeg).toInt = -1 ↔ (fsz (xs (y3 + 1).toNatClampNeg).toNatClampNeg).toInt < 0) ∧ ((la (xs (y3 + 1).toNatClampNeg).toNatClampNeg).toInt ≠ -1 → (fla (xs (y3 + 1).toNatClampNeg).toNatClampNeg).toInt = (la (xs (y3 + 1).toNatClampNeg).toNatClampNeg).toInt ∧ (fsz (xs (y3 + 1).toNatClampNeg).toNatClampNeg).toInt = (sz9 (xs (y3 + 1).toNatClampNeg).toNatClampNeg).toInt) := fun h9 => hrel _ (hw_i4 h9)
    have hr179 : 0 ≤ (xs (y3 + 3).toNatClampNeg).toInt ∧ (xs (y3 + 3).toNatClampNeg).toInt ≤ 3 → ((la (xs (y3 + 3).toNatClampNeg).toNatClampNeg).toInt = -1 ↔ (fsz (xs (y3 + 3).toNatClampNeg).toNatClampNeg).toInt < 0) ∧ ((la (xs (y3 + 3).toNatClampNeg).toNatClampNeg).toInt ≠ -1 → (fla (xs (y3 + 3).toNatClampNeg).toNatClampNeg).toInt = (la (xs (y3 + 3).toNatClampNeg).toNatClampNeg).toInt ∧ (fsz (xs (y3 + 3).toNatClampNeg).toNatClampNeg).toInt = (sz9 (xs (y3 + 3).toNatClampNeg).toNatClampNeg).toInt) := fun h9 => hrel _ (hw_i4 h9)
    refine lv_pop hx hb dL_law_1030 rfl ?_
    refine lv_aload_n hx hb dL_law_1031 rfl (lv_at hl 1 rfl) ?_
    refine lv_aload_n hx hb dL_law_1032 rfl (lv_at hl 3 rfl) ?_
    refine lv_iload_n hx hb dL_law_1033 rfl (lv_at hl 0 rfl) ?_
    refine lv_iconst (v := 1) hx hb dL_law_1034 (by decide) ?_
    refine lv_iadd hx hb dL_law_1035 ?_
    refine va_sld hx hb hX hbl hbA hS (hw_in (by omega) (by omega)) dL_law_1036 ?_
    refine lv_aload_n hx hb dL_law_1037 rfl (lv_at hl 3 rfl) ?_
    refine lv_iload_n hx hb dL_law_1038 rfl (lv_at hl 0 rfl) ?_
    refine lv_iconst (v := 2) hx hb dL_law_1039 (by decide) ?_
    refine lv_iadd hx hb dL_law_1040 ?_
    refine va_sld hx hb hX hbl hbA hS (hw_in (by omega) (by omega)) dL_law_1041 ?_
    refine lv_aload_n hx hb dL_law_1042 rfl (lv_at hl 3 rfl) ?_
    refine lv_iload_n hx hb dL_law_1043 rfl (lv_at hl 0 rfl) ?_
    refine lv_iconst (v := 3) hx hb dL_law_1044 (by decide) ?_
    refine lv_iadd hx hb dL_law_1045 ?_
    refine va_sld hx hb hX hbl hbA hS (hw_in (by omega) (by omega)) dL_law_1046 ?_
    refine lv_aload_n hx hb dL_law_1047 rfl (lv_at hl 3 rfl) ?_
    refine lv_iload_n hx hb dL_law_1048 rfl (lv_at hl 0 rfl) ?_
    refine lv_iconst (v := 4) hx hb dL_law_1049 (by decide) ?_
    refine lv_iadd hx hb dL_law_1050 ?_
    refine va_sld hx hb hX hbl hbA hS (hw_in (by omega) (by omega)) dL_law_1051 ?_
    refine lv_aload_n hx hb dL_law_1052 rfl (lv_at hl 3 rfl) ?_
    refine lv_iload_n hx hb dL_law_1053 rfl (lv_at hl 0 rfl) ?_
    refine lv_iconst (v := 5) hx hb dL_law_1054 (by decide) ?_
    refine lv_iadd hx hb dL_law_1055 ?_
    refine va_sld hx hb hX hbl hbA hS (hw_in (by omega) (by omega)) dL_law_1056 ?_
    obtain ⟨f180, v181⟩ := hH.a84 (hw_RM_44 Rm)
    refine hw_cM0 (va_runV (As := [.int (xs (y3 + 1).toNatClampNeg), .int (xs (y3 + 2).toNatClampNeg), .int (xs (y3 + 3).toNatClampNeg), .int (xs (y3 + 4).toNatClampNeg), .int (xs (y3 + 5).toNatClampNeg)]) (rest := []) ⟨hx, hb, hml, hown, hts⟩ (k3_X12_copy l D G1 mo (xs (y3 + 1).toNatClampNeg) (xs (y3 + 2).toNatClampNeg) (xs (y3 + 3).toNatClampNeg) (xs (y3 + 4).toNatClampNeg) (xs (y3 + 5).toNatClampNeg) _ rm udm kym lom wkm dkm lnm smm fim bem rkm rlm rwm clm dgm fla fsz fth f180 gm Rm ⟨by first | decide | omega, by first | decide | omega⟩ ⟨by first | decide | omega, by first | decide | omega⟩ ⟨by first | decide | omega, by first | decide | omega⟩ ⟨by first | decide | omega, by first | decide | omega⟩ ⟨by first | decide | omega, by first | decide | omega⟩ ⟨by first | decide | omega, by first | decide | omega⟩ ⟨by first | decide | omega, by first | decide | omega⟩ ⟨by first | decide | omega, by first | decide | omega⟩ ⟨by first | decide | omega, by first | decide | omega⟩ ⟨by first | decide | omega, by first | decide | omega⟩ ⟨by first | decide | omega, by first | decide | omega⟩ ⟨by first | decide | omega, by first | decide | omega⟩ qsz) (cwV 5 hts gL_law_X12_copy rfl rfl rfl (by decide +kernel) ⟨Nat.le_of_ble_eq_true rfl, Nat.le_of_ble_eq_true rfl⟩) (hw_pV (hw_rc (q := (RX12, TX12, 45)) hK vm rfl) hH hK hST hS (by decide) (hw_hG hGe1) ⟨vm, vla, vsz, vth, v181⟩) rfl rfl hl.1 rfl (lv_room (Nat.le_of_ble_eq_true rfl)) dL_law_1057 ⟨by show _ ≤ 600000; omega, by show _ ≤ 7302250; omega⟩) hS (hw_AWsub (by decide) hGe1 hS.1) (fun v H locs hp hz hk hS => ?_)
    rcases hp with ⟨f183, f184, rfl, hH, v185, v186, v187, v188, v189, q190, q191⟩ | ⟨f192, f193, rfl, hH, v194, v195, v196, v197, v198, q199, q200, q201, q202⟩ | ⟨f203, f204, rfl, hH, v205, v206, v207, v208, v209, q210, q211, q212, q213, q214, q215⟩ | ⟨f216, f217, rfl, hH, v218, v219, v220, v221, v222, q223, q224, q225, q226, q227, q228, q229⟩ | ⟨x230, f231, f232, rfl, hH, v233, v234, v235, v236, v237, q238, q239, q240, q241, q242, q243, q244, q245⟩
    · have hRK := hw_RK3.kept hRK (fun q9 h9 l9 => hk q9 l9 (by rcases h9 with h9 | h9 <;> exact hw_AWn h9 (by decide) l9))
      have v14 := va_at.kept v14 (hk _ (hw_lt v14) (hw_AWn gx (by decide) (hw_lt v14)))
      have v15 := va_at.kept v15 (hk _ (hw_lt v15) (hw_AWn (hw_RX_13 Rx) (by decide) (hw_lt v15)))
      refine lv_pop hx hb dL_law_1060 rfl ?_
      refine lv_goto (tgt := 1187) hx hb dL_law_1061 (by decide) ?_
      refine W.widen (k := k + 20) (n := n + 80) (by first | omega | (show _ ≤ _; omega)) (by first | omega | (show _ ≤ _; omega)) ?_
      exact hk9 _ _ _ ⟨G1, rx, rm, pnx, pcx, ksx, scx, udm, kym, lom, wkm, dkm, lnm, smm, fim, bem, rkm, rlm, rwm, clm, dgm, fq, la, sz9, fla, fsz, th, tt, f183, hH, hGe1, wx, wm, gx, gm, Rx, v14, ⟨by first | decide | omega, by first | decide | omega⟩, v15, hRK, Rm, v185, ⟨by first | decide | omega, by first | decide | omega⟩, ⟨by first | decide | omega, by first | decide | omega⟩, ⟨by first | decide | omega, by first | decide | omega⟩, ⟨by first | decide | omega, by first | decide | omega⟩, ⟨by first | decide | omega, by first | decide | omega⟩, ⟨by first | decide | omega, by first | decide | omega⟩, ⟨by first | decide | omega, by first | decide | omega⟩, ⟨by first | decide | omega, by first | decide | omega⟩, ⟨by first | decide | omega, by first | decide | omega⟩, ⟨by first | decide | omega, by first | decide | omega⟩, ⟨by first | decide | omega, by first | decide | omega⟩, ⟨by first | decide | omega, by first | decide | omega⟩, v186, v187, qsz, hrel, v188, (by rw [q191]; exact hrt)⟩ hS hl
    · have hRK := hw_RK3.kept hRK (fun q9 h9 l9 => hk q9 l9 (by rcases h9 with h9 | h9 <;> exact hw_AWn h9 (by decide) l9))
      have v14 := va_at.kept v14 (hk _ (hw_lt v14) (hw_AWn gx (by decide) (hw_lt v14)))
      have v15 := va_at.kept v15 (hk _ (hw_lt v15) (hw_AWn (hw_RX_13 Rx) (by decide) (hw_lt v15)))
      refine lv_pop hx hb dL_law_1060 rfl ?_
      refine lv_goto (tgt := 1187) hx hb dL_law_1061 (by decide) ?_
      refine W.widen (k := k + 20) (n := n + 80) (by first | omega | (show _ ≤ _; omega)) (by first | omega | (show _ ≤ _; omega)) ?_
      exact hk9 _ _ _ ⟨G1, rx, rm, pnx, pcx, ksx, scx, udm, kym, lom, wkm, dkm, lnm, smm, fim, bem, rkm, rlm, rwm, clm, dgm, fq, la, sz9, fla, fsz, th, tt, f192, hH, hGe1, wx, wm, gx, gm, Rx, v14, ⟨by first | decide | omega, by first | decide | omega⟩, v15, hRK, Rm, v194, ⟨by first | decide | omega, by first | decide | omega⟩, ⟨by first | decide | omega, by first | decide | omega⟩, ⟨by first | decide | omega, by first | decide | omega⟩, ⟨by first | decide | omega, by first | decide | omega⟩, ⟨by first | decide | omega, by first | decide | omega⟩, ⟨by first | decide | omega, by first | decide | omega⟩, ⟨by first | decide | omega, by first | decide | omega⟩, ⟨by first | decide | omega, by first | decide | omega⟩, ⟨by first | decide | omega, by first | decide | omega⟩, ⟨by first | decide | omega, by first | decide | omega⟩, ⟨by first | decide | omega, by first | decide | omega⟩, ⟨by first | decide | omega, by first | decide | omega⟩, v195, v196, qsz, hrel, v197, (by rw [q202]; exact hrt)⟩ hS hl
    · have hRK := hw_RK3.kept hRK (fun q9 h9 l9 => hk q9 l9 (by rcases h9 with h9 | h9 <;> exact hw_AWn h9 (by decide) l9))
      have v14 := va_at.kept v14 (hk _ (hw_lt v14) (hw_AWn gx (by decide) (hw_lt v14)))
      have v15 := va_at.kept v15 (hk _ (hw_lt v15) (hw_AWn (hw_RX_13 Rx) (by decide) (hw_lt v15)))
      refine lv_pop hx hb dL_law_1060 rfl ?_
      refine lv_goto (tgt := 1187) hx hb dL_law_1061 (by decide) ?_
      refine W.widen (k := k + 20) (n := n + 80) (by first | omega | (show _ ≤ _; omega)) (by first | omega | (show _ ≤ _; omega)) ?_
      exact hk9 _ _ _ ⟨G1, rx, rm, pnx, pcx, ksx, scx, udm, kym, lom, wkm, dkm, lnm, smm, fim, bem, rkm, rlm, rwm, clm, dgm, fq, la, sz9, fla, fsz, th, tt, f203, hH, hGe1, wx, wm, gx, gm, Rx, v14, ⟨by first | decide | omega, by first | decide | omega⟩, v15, hRK, Rm, v205, ⟨by first | decide | omega, by first | decide | omega⟩, ⟨by first | decide | omega, by first | decide | omega⟩, ⟨by first | decide | omega, by first | decide | omega⟩, ⟨by first | decide | omega, by first | decide | omega⟩, ⟨by first | decide | omega, by first | decide | omega⟩, ⟨by first | decide | omega, by first | decide | omega⟩, ⟨by first | decide | omega, by first | decide | omega⟩, ⟨by first | decide | omega, by first | decide | omega⟩, ⟨by first | decide | omega, by first | decide | omega⟩, ⟨by first | decide | omega, by first | decide | omega⟩, ⟨by first | decide | omega, by first | decide | omega⟩, ⟨by first | decide | omega, by first | decide | omega⟩, v206, v207, qsz, hrel, v208, (by rw [q215]; exact hrt)⟩ hS hl
    · have hRK := hw_RK3.kept hRK (fun q9 h9 l9 => hk q9 l9 (by rcases h9 with h9 | h9 <;> exact hw_AWn h9 (by decide) l9))
      have v14 := va_at.kept v14 (hk _ (hw_lt v14) (hw_AWn gx (by decide) (hw_lt v14)))
      have v15 := va_at.kept v15 (hk _ (hw_lt v15) (hw_AWn (hw_RX_13 Rx) (by decide) (hw_lt v15)))
      refine lv_pop hx hb dL_law_1060 rfl ?_
      refine lv_goto (tgt := 1187) hx hb dL_law_1061 (by decide) ?_
      refine W.widen (k := k + 20) (n := n + 80) (by first | omega | (show _ ≤ _; omega)) (by first | omega | (show _ ≤ _; omega)) ?_
      exact hk9 _ _ _ ⟨G1, rx, rm, pnx, pcx, ksx, scx, udm, kym, lom, wkm, dkm, lnm, smm, fim, bem, rkm, rlm, rwm, clm, dgm, fq, la, sz9, fla, fsz, th, tt, f216, hH, hGe1, wx, wm, gx, gm, Rx, v14, ⟨by first | decide | omega, by first | decide | omega⟩, v15, hRK, Rm, v218, ⟨by first | decide | omega, by first | decide | omega⟩, ⟨by first | decide | omega, by first | decide | omega⟩, ⟨by first | decide | omega, by first | decide | omega⟩, ⟨by first | decide | omega, by first | decide | omega⟩, ⟨by first | decide | omega, by first | decide | omega⟩, ⟨by first | decide | omega, by first | decide | omega⟩, ⟨by first | decide | omega, by first | decide | omega⟩, ⟨by first | decide | omega, by first | decide | omega⟩, ⟨by first | decide | omega, by first | decide | omega⟩, ⟨by first | decide | omega, by first | decide | omega⟩, ⟨by first | decide | omega, by first | decide | omega⟩, ⟨by first | decide | omega, by first | decide | omega⟩, v219, v220, qsz, hrel, v221, (by rw [q229]; exact hrt)⟩ hS hl
    · have q244i := hw_ieq q244
      have hRK := hw_RK3.kept hRK (fun q9 h9 l9 => hk q9 l9 (by rcases h9 with h9 | h9 <;> exact hw_AWn h9 (by decide) l9))
      have v14 := va_at.kept v14 (hk _ (hw_lt v14) (hw_AWn gx (by decide) (hw_lt v14)))
      have v15 := va_at.kept v15 (hk _ (hw_lt v15) (hw_AWn (hw_RX_13 Rx) (by decide) (hw_lt v15)))
      refine lv_pop hx hb dL_law_1060 rfl ?_
      refine lv_goto (tgt := 1187) hx hb dL_law_1061 (by decide) ?_
      refine W.widen (k := k + 20) (n := n + 80) (by first | omega | (show _ ≤ _; omega)) (by first | omega | (show _ ≤ _; omega)) ?_
      exact hk9 _ _ _ ⟨G1, rx, rm, pnx, pcx, ksx, scx, udm, kym, lom, wkm, dkm, lnm, smm, fim, bem, rkm, rlm, rwm, clm, dgm, fq, la, sz9, fla, fsz, th, tt, f231, hH, hGe1, wx, wm, gx, gm, Rx, v14, ⟨by first | decide | omega, by first | decide | omega⟩, v15, hRK, Rm, v233, ⟨by first | decide | omega, by first | decide | omega⟩, ⟨by first | decide | omega, by first | decide | omega⟩, ⟨by first | decide | omega, by first | decide | omega⟩, ⟨by first | decide | omega, by first | decide | omega⟩, ⟨by first | decide | omega, by first | decide | omega⟩, ⟨by first | decide | omega, by first | decide | omega⟩, ⟨by first | decide | omega, by first | decide | omega⟩, ⟨by first | decide | omega, by first | decide | omega⟩, ⟨by first | decide | omega, by first | decide | omega⟩, ⟨by first | decide | omega, by first | decide | omega⟩, ⟨by first | decide | omega, by first | decide | omega⟩, ⟨by first | decide | omega, by first | decide | omega⟩, v234, v235, qsz, hrel, v236, (by exfalso; omega)⟩ hS hl
  · have vm := va_at.kept vm (hk _ (hw_lt vm) (hw_AWn gm (by decide) (hw_lt vm)))
    have vla := va_at.kept vla (hk _ (hw_lt vla) (hw_AWn (hw_RM_41 Rm) (by decide) (hw_lt vla)))
    have vsz := va_at.kept vsz (hk _ (hw_lt vsz) (hw_AWn (hw_RM_42 Rm) (by decide) (hw_lt vsz)))
    have vth := va_at.kept vth (hk _ (hw_lt vth) (hw_AWn (hw_RM_43 Rm) (by decide) (hw_lt vth)))
    have hr246 : 0 ≤ (xs (y3 + 1).toNatClampNeg).toInt ∧ (xs (y3 + 1).toNatClampNeg).toInt ≤ 3 → ((la (xs (y3 + 1).toNatClampNeg).toNatClampNeg).toInt = -1 ↔ (fsz (xs (y3 + 1).toNatClampNeg).toNatClampNeg).toInt < 0) ∧ ((la (xs (y3 + 1).toNatClampNeg).toNatClampNeg).toInt ≠ -1 → (fla (xs (y3 + 1).toNatClampNeg).toNatClampNeg).toInt = (la (xs (y3 + 1).toNatClampNeg).toNatClampNeg).toInt ∧ (fsz (xs (y3 + 1).toNatClampNeg).toNatClampNeg).toInt = (sz9 (xs (y3 + 1).toNatClampNeg).toNatClampNeg).toInt) := fun h9 => hrel _ (hw_i4 h9)
    have hr247 : 0 ≤ (xs (y3 + 3).toNatClampNeg).toInt ∧ (xs (y3 + 3).toNatClampNeg).toInt ≤ 3 → ((la (xs (y3 + 3).toNatClampNeg).toNatClampNeg).toInt = -1 ↔ (fsz (xs (y3 + 3).toNatClampNeg).toNatClampNeg).toInt < 0) ∧ ((la (xs (y3 + 3).toNatClampNeg).toNatClampNeg).toInt ≠ -1 → (fla (xs (y3 + 3).toNatClampNeg).toNatClampNeg).toInt = (la (xs (y3 + 3).toNatClampNeg).toNatClampNeg).toInt ∧ (fsz (xs (y3 + 3).toNatClampNeg).toNatClampNeg).toInt = (sz9 (xs (y3 + 3).toNatClampNeg).toNatClampNeg).toInt) := fun h9 => hrel _ (hw_i4 h9)
    refine lv_pop hx hb dL_law_1030 rfl ?_
    refine lv_aload_n hx hb dL_law_1031 rfl (lv_at hl 1 rfl) ?_
    refine lv_aload_n hx hb dL_law_1032 rfl (lv_at hl 3 rfl) ?_
    refine lv_iload_n hx hb dL_law_1033 rfl (lv_at hl 0 rfl) ?_
    refine lv_iconst (v := 1) hx hb dL_law_1034 (by decide) ?_
    refine lv_iadd hx hb dL_law_1035 ?_
    refine va_sld hx hb hX hbl hbA hS (hw_in (by omega) (by omega)) dL_law_1036 ?_
    refine lv_aload_n hx hb dL_law_1037 rfl (lv_at hl 3 rfl) ?_
    refine lv_iload_n hx hb dL_law_1038 rfl (lv_at hl 0 rfl) ?_
    refine lv_iconst (v := 2) hx hb dL_law_1039 (by decide) ?_
    refine lv_iadd hx hb dL_law_1040 ?_
    refine va_sld hx hb hX hbl hbA hS (hw_in (by omega) (by omega)) dL_law_1041 ?_
    refine lv_aload_n hx hb dL_law_1042 rfl (lv_at hl 3 rfl) ?_
    refine lv_iload_n hx hb dL_law_1043 rfl (lv_at hl 0 rfl) ?_
    refine lv_iconst (v := 3) hx hb dL_law_1044 (by decide) ?_
    refine lv_iadd hx hb dL_law_1045 ?_
    refine va_sld hx hb hX hbl hbA hS (hw_in (by omega) (by omega)) dL_law_1046 ?_
    refine lv_aload_n hx hb dL_law_1047 rfl (lv_at hl 3 rfl) ?_
    refine lv_iload_n hx hb dL_law_1048 rfl (lv_at hl 0 rfl) ?_
    refine lv_iconst (v := 4) hx hb dL_law_1049 (by decide) ?_
    refine lv_iadd hx hb dL_law_1050 ?_
    refine va_sld hx hb hX hbl hbA hS (hw_in (by omega) (by omega)) dL_law_1051 ?_
    refine lv_aload_n hx hb dL_law_1052 rfl (lv_at hl 3 rfl) ?_
    refine lv_iload_n hx hb dL_law_1053 rfl (lv_at hl 0 rfl) ?_
    refine lv_iconst (v := 5) hx hb dL_law_1054 (by decide) ?_
    refine lv_iadd hx hb dL_law_1055 ?_
    refine va_sld hx hb hX hbl hbA hS (hw_in (by omega) (by omega)) dL_law_1056 ?_
    obtain ⟨f248, v249⟩ := hH.a84 (hw_RM_44 Rm)
    refine hw_cM0 (va_runV (As := [.int (xs (y3 + 1).toNatClampNeg), .int (xs (y3 + 2).toNatClampNeg), .int (xs (y3 + 3).toNatClampNeg), .int (xs (y3 + 4).toNatClampNeg), .int (xs (y3 + 5).toNatClampNeg)]) (rest := []) ⟨hx, hb, hml, hown, hts⟩ (k3_X12_copy l D G1 mo (xs (y3 + 1).toNatClampNeg) (xs (y3 + 2).toNatClampNeg) (xs (y3 + 3).toNatClampNeg) (xs (y3 + 4).toNatClampNeg) (xs (y3 + 5).toNatClampNeg) _ rm udm kym lom wkm dkm lnm smm fim bem rkm rlm rwm clm dgm fla fsz fth f248 gm Rm ⟨by first | decide | omega, by first | decide | omega⟩ ⟨by first | decide | omega, by first | decide | omega⟩ ⟨by first | decide | omega, by first | decide | omega⟩ ⟨by first | decide | omega, by first | decide | omega⟩ ⟨by first | decide | omega, by first | decide | omega⟩ ⟨by first | decide | omega, by first | decide | omega⟩ ⟨by first | decide | omega, by first | decide | omega⟩ ⟨by first | decide | omega, by first | decide | omega⟩ ⟨by first | decide | omega, by first | decide | omega⟩ ⟨by first | decide | omega, by first | decide | omega⟩ ⟨by first | decide | omega, by first | decide | omega⟩ ⟨by first | decide | omega, by first | decide | omega⟩ qsz) (cwV 5 hts gL_law_X12_copy rfl rfl rfl (by decide +kernel) ⟨Nat.le_of_ble_eq_true rfl, Nat.le_of_ble_eq_true rfl⟩) (hw_pV (hw_rc (q := (RX12, TX12, 45)) hK vm rfl) hH hK hST hS (by decide) (hw_hG hGe1) ⟨vm, vla, vsz, vth, v249⟩) rfl rfl hl.1 rfl (lv_room (Nat.le_of_ble_eq_true rfl)) dL_law_1057 ⟨by show _ ≤ 600000; omega, by show _ ≤ 7302250; omega⟩) hS (hw_AWsub (by decide) hGe1 hS.1) (fun v H locs hp hz hk hS => ?_)
    rcases hp with ⟨f251, f252, rfl, hH, v253, v254, v255, v256, v257, q258, q259⟩ | ⟨f260, f261, rfl, hH, v262, v263, v264, v265, v266, q267, q268, q269, q270⟩ | ⟨f271, f272, rfl, hH, v273, v274, v275, v276, v277, q278, q279, q280, q281, q282, q283⟩ | ⟨f284, f285, rfl, hH, v286, v287, v288, v289, v290, q291, q292, q293, q294, q295, q296, q297⟩ | ⟨x298, f299, f300, rfl, hH, v301, v302, v303, v304, v305, q306, q307, q308, q309, q310, q311, q312, q313⟩
    · have hRK := hw_RK3.kept hRK (fun q9 h9 l9 => hk q9 l9 (by rcases h9 with h9 | h9 <;> exact hw_AWn h9 (by decide) l9))
      have v21 := va_at.kept v21 (hk _ (hw_lt v21) (hw_AWn gx (by decide) (hw_lt v21)))
      have v22 := va_at.kept v22 (hk _ (hw_lt v22) (hw_AWn (hw_RX_13 Rx) (by decide) (hw_lt v22)))
      refine lv_pop hx hb dL_law_1060 rfl ?_
      refine lv_goto (tgt := 1187) hx hb dL_law_1061 (by decide) ?_
      refine W.widen (k := k + 20) (n := n + 80) (by first | omega | (show _ ≤ _; omega)) (by first | omega | (show _ ≤ _; omega)) ?_
      exact hk9 _ _ _ ⟨G1, rx, rm, pnx, pcx, ksx, scx, udm, kym, lom, wkm, dkm, lnm, smm, fim, bem, rkm, rlm, rwm, clm, dgm, fq, la, sz9, fla, fsz, th, tt, f251, hH, hGe1, wx, wm, gx, gm, Rx, v21, ⟨by first | decide | omega, by first | decide | omega⟩, v22, hRK, Rm, v253, ⟨by first | decide | omega, by first | decide | omega⟩, ⟨by first | decide | omega, by first | decide | omega⟩, ⟨by first | decide | omega, by first | decide | omega⟩, ⟨by first | decide | omega, by first | decide | omega⟩, ⟨by first | decide | omega, by first | decide | omega⟩, ⟨by first | decide | omega, by first | decide | omega⟩, ⟨by first | decide | omega, by first | decide | omega⟩, ⟨by first | decide | omega, by first | decide | omega⟩, ⟨by first | decide | omega, by first | decide | omega⟩, ⟨by first | decide | omega, by first | decide | omega⟩, ⟨by first | decide | omega, by first | decide | omega⟩, ⟨by first | decide | omega, by first | decide | omega⟩, v254, v255, qsz, hrel, v256, (by rw [q259]; exact hrt)⟩ hS hl
    · have hRK := hw_RK3.kept hRK (fun q9 h9 l9 => hk q9 l9 (by rcases h9 with h9 | h9 <;> exact hw_AWn h9 (by decide) l9))
      have v21 := va_at.kept v21 (hk _ (hw_lt v21) (hw_AWn gx (by decide) (hw_lt v21)))
      have v22 := va_at.kept v22 (hk _ (hw_lt v22) (hw_AWn (hw_RX_13 Rx) (by decide) (hw_lt v22)))
      refine lv_pop hx hb dL_law_1060 rfl ?_
      refine lv_goto (tgt := 1187) hx hb dL_law_1061 (by decide) ?_
      refine W.widen (k := k + 20) (n := n + 80) (by first | omega | (show _ ≤ _; omega)) (by first | omega | (show _ ≤ _; omega)) ?_
      exact hk9 _ _ _ ⟨G1, rx, rm, pnx, pcx, ksx, scx, udm, kym, lom, wkm, dkm, lnm, smm, fim, bem, rkm, rlm, rwm, clm, dgm, fq, la, sz9, fla, fsz, th, tt, f260, hH, hGe1, wx, wm, gx, gm, Rx, v21, ⟨by first | decide | omega, by first | decide | omega⟩, v22, hRK, Rm, v262, ⟨by first | decide | omega, by first | decide | omega⟩, ⟨by first | decide | omega, by first | decide | omega⟩, ⟨by first | decide | omega, by first | decide | omega⟩, ⟨by first | decide | omega, by first | decide | omega⟩, ⟨by first | decide | omega, by first | decide | omega⟩, ⟨by first | decide | omega, by first | decide | omega⟩, ⟨by first | decide | omega, by first | decide | omega⟩, ⟨by first | decide | omega, by first | decide | omega⟩, ⟨by first | decide | omega, by first | decide | omega⟩, ⟨by first | decide | omega, by first | decide | omega⟩, ⟨by first | decide | omega, by first | decide | omega⟩, ⟨by first | decide | omega, by first | decide | omega⟩, v263, v264, qsz, hrel, v265, (by rw [q270]; exact hrt)⟩ hS hl
    · have hRK := hw_RK3.kept hRK (fun q9 h9 l9 => hk q9 l9 (by rcases h9 with h9 | h9 <;> exact hw_AWn h9 (by decide) l9))
      have v21 := va_at.kept v21 (hk _ (hw_lt v21) (hw_AWn gx (by decide) (hw_lt v21)))
      have v22 := va_at.kept v22 (hk _ (hw_lt v22) (hw_AWn (hw_RX_13 Rx) (by decide) (hw_lt v22)))
      refine lv_pop hx hb dL_law_1060 rfl ?_
      refine lv_goto (tgt := 1187) hx hb dL_law_1061 (by decide) ?_
      refine W.widen (k := k + 20) (n := n + 80) (by first | omega | (show _ ≤ _; omega)) (by first | omega | (show _ ≤ _; omega)) ?_
      exact hk9 _ _ _ ⟨G1, rx, rm, pnx, pcx, ksx, scx, udm, kym, lom, wkm, dkm, lnm, smm, fim, bem, rkm, rlm, rwm, clm, dgm, fq, la, sz9, fla, fsz, th, tt, f271, hH, hGe1, wx, wm, gx, gm, Rx, v21, ⟨by first | decide | omega, by first | decide | omega⟩, v22, hRK, Rm, v273, ⟨by first | decide | omega, by first | decide | omega⟩, ⟨by first | decide | omega, by first | decide | omega⟩, ⟨by first | decide | omega, by first | decide | omega⟩, ⟨by first | decide | omega, by first | decide | omega⟩, ⟨by first | decide | omega, by first | decide | omega⟩, ⟨by first | decide | omega, by first | decide | omega⟩, ⟨by first | decide | omega, by first | decide | omega⟩, ⟨by first | decide | omega, by first | decide | omega⟩, ⟨by first | decide | omega, by first | decide | omega⟩, ⟨by first | decide | omega, by first | decide | omega⟩, ⟨by first | decide | omega, by first | decide | omega⟩, ⟨by first | decide | omega, by first | decide | omega⟩, v274, v275, qsz, hrel, v276, (by rw [q283]; exact hrt)⟩ hS hl
    · have hRK := hw_RK3.kept hRK (fun q9 h9 l9 => hk q9 l9 (by rcases h9 with h9 | h9 <;> exact hw_AWn h9 (by decide) l9))
      have v21 := va_at.kept v21 (hk _ (hw_lt v21) (hw_AWn gx (by decide) (hw_lt v21)))
      have v22 := va_at.kept v22 (hk _ (hw_lt v22) (hw_AWn (hw_RX_13 Rx) (by decide) (hw_lt v22)))
      refine lv_pop hx hb dL_law_1060 rfl ?_
      refine lv_goto (tgt := 1187) hx hb dL_law_1061 (by decide) ?_
      refine W.widen (k := k + 20) (n := n + 80) (by first | omega | (show _ ≤ _; omega)) (by first | omega | (show _ ≤ _; omega)) ?_
      exact hk9 _ _ _ ⟨G1, rx, rm, pnx, pcx, ksx, scx, udm, kym, lom, wkm, dkm, lnm, smm, fim, bem, rkm, rlm, rwm, clm, dgm, fq, la, sz9, fla, fsz, th, tt, f284, hH, hGe1, wx, wm, gx, gm, Rx, v21, ⟨by first | decide | omega, by first | decide | omega⟩, v22, hRK, Rm, v286, ⟨by first | decide | omega, by first | decide | omega⟩, ⟨by first | decide | omega, by first | decide | omega⟩, ⟨by first | decide | omega, by first | decide | omega⟩, ⟨by first | decide | omega, by first | decide | omega⟩, ⟨by first | decide | omega, by first | decide | omega⟩, ⟨by first | decide | omega, by first | decide | omega⟩, ⟨by first | decide | omega, by first | decide | omega⟩, ⟨by first | decide | omega, by first | decide | omega⟩, ⟨by first | decide | omega, by first | decide | omega⟩, ⟨by first | decide | omega, by first | decide | omega⟩, ⟨by first | decide | omega, by first | decide | omega⟩, ⟨by first | decide | omega, by first | decide | omega⟩, v287, v288, qsz, hrel, v289, (by rw [q297]; exact hrt)⟩ hS hl
    · have q312i := hw_ieq q312
      have hRK := hw_RK3.kept hRK (fun q9 h9 l9 => hk q9 l9 (by rcases h9 with h9 | h9 <;> exact hw_AWn h9 (by decide) l9))
      have v21 := va_at.kept v21 (hk _ (hw_lt v21) (hw_AWn gx (by decide) (hw_lt v21)))
      have v22 := va_at.kept v22 (hk _ (hw_lt v22) (hw_AWn (hw_RX_13 Rx) (by decide) (hw_lt v22)))
      refine lv_pop hx hb dL_law_1060 rfl ?_
      refine lv_goto (tgt := 1187) hx hb dL_law_1061 (by decide) ?_
      refine W.widen (k := k + 20) (n := n + 80) (by first | omega | (show _ ≤ _; omega)) (by first | omega | (show _ ≤ _; omega)) ?_
      exact hk9 _ _ _ ⟨G1, rx, rm, pnx, pcx, ksx, scx, udm, kym, lom, wkm, dkm, lnm, smm, fim, bem, rkm, rlm, rwm, clm, dgm, fq, la, sz9, fla, fsz, th, tt, f299, hH, hGe1, wx, wm, gx, gm, Rx, v21, ⟨by first | decide | omega, by first | decide | omega⟩, v22, hRK, Rm, v301, ⟨by first | decide | omega, by first | decide | omega⟩, ⟨by first | decide | omega, by first | decide | omega⟩, ⟨by first | decide | omega, by first | decide | omega⟩, ⟨by first | decide | omega, by first | decide | omega⟩, ⟨by first | decide | omega, by first | decide | omega⟩, ⟨by first | decide | omega, by first | decide | omega⟩, ⟨by first | decide | omega, by first | decide | omega⟩, ⟨by first | decide | omega, by first | decide | omega⟩, ⟨by first | decide | omega, by first | decide | omega⟩, ⟨by first | decide | omega, by first | decide | omega⟩, ⟨by first | decide | omega, by first | decide | omega⟩, ⟨by first | decide | omega, by first | decide | omega⟩, v302, v303, qsz, hrel, v304, (by exfalso; omega)⟩ hS hl
  · have q39i := hw_ieq q39
    have vm := va_at.kept vm (hk _ (hw_lt vm) (hw_AWn gm (by decide) (hw_lt vm)))
    have vla := va_at.kept vla (hk _ (hw_lt vla) (hw_AWn (hw_RM_41 Rm) (by decide) (hw_lt vla)))
    have vsz := va_at.kept vsz (hk _ (hw_lt vsz) (hw_AWn (hw_RM_42 Rm) (by decide) (hw_lt vsz)))
    have vth := va_at.kept vth (hk _ (hw_lt vth) (hw_AWn (hw_RM_43 Rm) (by decide) (hw_lt vth)))
    have hr314 : 0 ≤ (xs (y3 + 1).toNatClampNeg).toInt ∧ (xs (y3 + 1).toNatClampNeg).toInt ≤ 3 → ((la (xs (y3 + 1).toNatClampNeg).toNatClampNeg).toInt = -1 ↔ (fsz (xs (y3 + 1).toNatClampNeg).toNatClampNeg).toInt < 0) ∧ ((la (xs (y3 + 1).toNatClampNeg).toNatClampNeg).toInt ≠ -1 → (fla (xs (y3 + 1).toNatClampNeg).toNatClampNeg).toInt = (la (xs (y3 + 1).toNatClampNeg).toNatClampNeg).toInt ∧ (fsz (xs (y3 + 1).toNatClampNeg).toNatClampNeg).toInt = (sz9 (xs (y3 + 1).toNatClampNeg).toNatClampNeg).toInt) := fun h9 => hrel _ (hw_i4 h9)
    have hr315 : 0 ≤ (xs (y3 + 3).toNatClampNeg).toInt ∧ (xs (y3 + 3).toNatClampNeg).toInt ≤ 3 → ((la (xs (y3 + 3).toNatClampNeg).toNatClampNeg).toInt = -1 ↔ (fsz (xs (y3 + 3).toNatClampNeg).toNatClampNeg).toInt < 0) ∧ ((la (xs (y3 + 3).toNatClampNeg).toNatClampNeg).toInt ≠ -1 → (fla (xs (y3 + 3).toNatClampNeg).toNatClampNeg).toInt = (la (xs (y3 + 3).toNatClampNeg).toNatClampNeg).toInt ∧ (fsz (xs (y3 + 3).toNatClampNeg).toNatClampNeg).toInt = (sz9 (xs (y3 + 3).toNatClampNeg).toNatClampNeg).toInt) := fun h9 => hrel _ (hw_i4 h9)
    refine lv_pop hx hb dL_law_1030 rfl ?_
    refine lv_aload_n hx hb dL_law_1031 rfl (lv_at hl 1 rfl) ?_
    refine lv_aload_n hx hb dL_law_1032 rfl (lv_at hl 3 rfl) ?_
    refine lv_iload_n hx hb dL_law_1033 rfl (lv_at hl 0 rfl) ?_
    refine lv_iconst (v := 1) hx hb dL_law_1034 (by decide) ?_
    refine lv_iadd hx hb dL_law_1035 ?_
    refine va_sld hx hb hX hbl hbA hS (hw_in (by omega) (by omega)) dL_law_1036 ?_
    refine lv_aload_n hx hb dL_law_1037 rfl (lv_at hl 3 rfl) ?_
    refine lv_iload_n hx hb dL_law_1038 rfl (lv_at hl 0 rfl) ?_
    refine lv_iconst (v := 2) hx hb dL_law_1039 (by decide) ?_
    refine lv_iadd hx hb dL_law_1040 ?_
    refine va_sld hx hb hX hbl hbA hS (hw_in (by omega) (by omega)) dL_law_1041 ?_
    refine lv_aload_n hx hb dL_law_1042 rfl (lv_at hl 3 rfl) ?_
    refine lv_iload_n hx hb dL_law_1043 rfl (lv_at hl 0 rfl) ?_
    refine lv_iconst (v := 3) hx hb dL_law_1044 (by decide) ?_
    refine lv_iadd hx hb dL_law_1045 ?_
    refine va_sld hx hb hX hbl hbA hS (hw_in (by omega) (by omega)) dL_law_1046 ?_
    refine lv_aload_n hx hb dL_law_1047 rfl (lv_at hl 3 rfl) ?_
    refine lv_iload_n hx hb dL_law_1048 rfl (lv_at hl 0 rfl) ?_
    refine lv_iconst (v := 4) hx hb dL_law_1049 (by decide) ?_
    refine lv_iadd hx hb dL_law_1050 ?_
    refine va_sld hx hb hX hbl hbA hS (hw_in (by omega) (by omega)) dL_law_1051 ?_
    refine lv_aload_n hx hb dL_law_1052 rfl (lv_at hl 3 rfl) ?_
    refine lv_iload_n hx hb dL_law_1053 rfl (lv_at hl 0 rfl) ?_
    refine lv_iconst (v := 5) hx hb dL_law_1054 (by decide) ?_
    refine lv_iadd hx hb dL_law_1055 ?_
    refine va_sld hx hb hX hbl hbA hS (hw_in (by omega) (by omega)) dL_law_1056 ?_
    obtain ⟨f316, v317⟩ := hH.a84 (hw_RM_44 Rm)
    refine hw_cM0 (va_runV (As := [.int (xs (y3 + 1).toNatClampNeg), .int (xs (y3 + 2).toNatClampNeg), .int (xs (y3 + 3).toNatClampNeg), .int (xs (y3 + 4).toNatClampNeg), .int (xs (y3 + 5).toNatClampNeg)]) (rest := []) ⟨hx, hb, hml, hown, hts⟩ (k3_X12_copy l D G1 mo (xs (y3 + 1).toNatClampNeg) (xs (y3 + 2).toNatClampNeg) (xs (y3 + 3).toNatClampNeg) (xs (y3 + 4).toNatClampNeg) (xs (y3 + 5).toNatClampNeg) _ rm udm kym lom wkm dkm lnm smm fim bem rkm rlm rwm clm dgm fla fsz fth f316 gm Rm ⟨by first | decide | omega, by first | decide | omega⟩ ⟨by first | decide | omega, by first | decide | omega⟩ ⟨by first | decide | omega, by first | decide | omega⟩ ⟨by first | decide | omega, by first | decide | omega⟩ ⟨by first | decide | omega, by first | decide | omega⟩ ⟨by first | decide | omega, by first | decide | omega⟩ ⟨by first | decide | omega, by first | decide | omega⟩ ⟨by first | decide | omega, by first | decide | omega⟩ ⟨by first | decide | omega, by first | decide | omega⟩ ⟨by first | decide | omega, by first | decide | omega⟩ ⟨by first | decide | omega, by first | decide | omega⟩ ⟨by first | decide | omega, by first | decide | omega⟩ qsz) (cwV 5 hts gL_law_X12_copy rfl rfl rfl (by decide +kernel) ⟨Nat.le_of_ble_eq_true rfl, Nat.le_of_ble_eq_true rfl⟩) (hw_pV (hw_rc (q := (RX12, TX12, 45)) hK vm rfl) hH hK hST hS (by decide) (hw_hG hGe1) ⟨vm, vla, vsz, vth, v317⟩) rfl rfl hl.1 rfl (lv_room (Nat.le_of_ble_eq_true rfl)) dL_law_1057 ⟨by show _ ≤ 600000; omega, by show _ ≤ 7302250; omega⟩) hS (hw_AWsub (by decide) hGe1 hS.1) (fun v H locs hp hz hk hS => ?_)
    rcases hp with ⟨f319, f320, rfl, hH, v321, v322, v323, v324, v325, q326, q327⟩ | ⟨f328, f329, rfl, hH, v330, v331, v332, v333, v334, q335, q336, q337, q338⟩ | ⟨f339, f340, rfl, hH, v341, v342, v343, v344, v345, q346, q347, q348, q349, q350, q351⟩ | ⟨f352, f353, rfl, hH, v354, v355, v356, v357, v358, q359, q360, q361, q362, q363, q364, q365⟩ | ⟨x366, f367, f368, rfl, hH, v369, v370, v371, v372, v373, q374, q375, q376, q377, q378, q379, q380, q381⟩
    · have hRK := hw_RK3.kept hRK (fun q9 h9 l9 => hk q9 l9 (by rcases h9 with h9 | h9 <;> exact hw_AWn h9 (by decide) l9))
      have v31 := va_at.kept v31 (hk _ (hw_lt v31) (hw_AWn gx (by decide) (hw_lt v31)))
      have v32 := va_at.kept v32 (hk _ (hw_lt v32) (hw_AWn (hw_RX_13 Rx) (by decide) (hw_lt v32)))
      refine lv_pop hx hb dL_law_1060 rfl ?_
      refine lv_goto (tgt := 1187) hx hb dL_law_1061 (by decide) ?_
      refine W.widen (k := k + 20) (n := n + 80) (by first | omega | (show _ ≤ _; omega)) (by first | omega | (show _ ≤ _; omega)) ?_
      exact hk9 _ _ _ ⟨G1, rx, rm, pnx, pcx, ksx, scx, udm, kym, lom, wkm, dkm, lnm, smm, fim, bem, rkm, rlm, rwm, clm, dgm, fq, la, sz9, fla, fsz, th, f30, f319, hH, hGe1, wx, wm, gx, gm, Rx, v31, ⟨by first | decide | omega, by first | decide | omega⟩, v32, hRK, Rm, v321, ⟨by first | decide | omega, by first | decide | omega⟩, ⟨by first | decide | omega, by first | decide | omega⟩, ⟨by first | decide | omega, by first | decide | omega⟩, ⟨by first | decide | omega, by first | decide | omega⟩, ⟨by first | decide | omega, by first | decide | omega⟩, ⟨by first | decide | omega, by first | decide | omega⟩, ⟨by first | decide | omega, by first | decide | omega⟩, ⟨by first | decide | omega, by first | decide | omega⟩, ⟨by first | decide | omega, by first | decide | omega⟩, ⟨by first | decide | omega, by first | decide | omega⟩, ⟨by first | decide | omega, by first | decide | omega⟩, ⟨by first | decide | omega, by first | decide | omega⟩, v322, v323, qsz, hrel, v324, (by exfalso; omega)⟩ hS hl
    · have hRK := hw_RK3.kept hRK (fun q9 h9 l9 => hk q9 l9 (by rcases h9 with h9 | h9 <;> exact hw_AWn h9 (by decide) l9))
      have v31 := va_at.kept v31 (hk _ (hw_lt v31) (hw_AWn gx (by decide) (hw_lt v31)))
      have v32 := va_at.kept v32 (hk _ (hw_lt v32) (hw_AWn (hw_RX_13 Rx) (by decide) (hw_lt v32)))
      refine lv_pop hx hb dL_law_1060 rfl ?_
      refine lv_goto (tgt := 1187) hx hb dL_law_1061 (by decide) ?_
      refine W.widen (k := k + 20) (n := n + 80) (by first | omega | (show _ ≤ _; omega)) (by first | omega | (show _ ≤ _; omega)) ?_
      exact hk9 _ _ _ ⟨G1, rx, rm, pnx, pcx, ksx, scx, udm, kym, lom, wkm, dkm, lnm, smm, fim, bem, rkm, rlm, rwm, clm, dgm, fq, la, sz9, fla, fsz, th, f30, f328, hH, hGe1, wx, wm, gx, gm, Rx, v31, ⟨by first | decide | omega, by first | decide | omega⟩, v32, hRK, Rm, v330, ⟨by first | decide | omega, by first | decide | omega⟩, ⟨by first | decide | omega, by first | decide | omega⟩, ⟨by first | decide | omega, by first | decide | omega⟩, ⟨by first | decide | omega, by first | decide | omega⟩, ⟨by first | decide | omega, by first | decide | omega⟩, ⟨by first | decide | omega, by first | decide | omega⟩, ⟨by first | decide | omega, by first | decide | omega⟩, ⟨by first | decide | omega, by first | decide | omega⟩, ⟨by first | decide | omega, by first | decide | omega⟩, ⟨by first | decide | omega, by first | decide | omega⟩, ⟨by first | decide | omega, by first | decide | omega⟩, ⟨by first | decide | omega, by first | decide | omega⟩, v331, v332, qsz, hrel, v333, (by exfalso; omega)⟩ hS hl
    · have hRK := hw_RK3.kept hRK (fun q9 h9 l9 => hk q9 l9 (by rcases h9 with h9 | h9 <;> exact hw_AWn h9 (by decide) l9))
      have v31 := va_at.kept v31 (hk _ (hw_lt v31) (hw_AWn gx (by decide) (hw_lt v31)))
      have v32 := va_at.kept v32 (hk _ (hw_lt v32) (hw_AWn (hw_RX_13 Rx) (by decide) (hw_lt v32)))
      refine lv_pop hx hb dL_law_1060 rfl ?_
      refine lv_goto (tgt := 1187) hx hb dL_law_1061 (by decide) ?_
      refine W.widen (k := k + 20) (n := n + 80) (by first | omega | (show _ ≤ _; omega)) (by first | omega | (show _ ≤ _; omega)) ?_
      exact hk9 _ _ _ ⟨G1, rx, rm, pnx, pcx, ksx, scx, udm, kym, lom, wkm, dkm, lnm, smm, fim, bem, rkm, rlm, rwm, clm, dgm, fq, la, sz9, fla, fsz, th, f30, f339, hH, hGe1, wx, wm, gx, gm, Rx, v31, ⟨by first | decide | omega, by first | decide | omega⟩, v32, hRK, Rm, v341, ⟨by first | decide | omega, by first | decide | omega⟩, ⟨by first | decide | omega, by first | decide | omega⟩, ⟨by first | decide | omega, by first | decide | omega⟩, ⟨by first | decide | omega, by first | decide | omega⟩, ⟨by first | decide | omega, by first | decide | omega⟩, ⟨by first | decide | omega, by first | decide | omega⟩, ⟨by first | decide | omega, by first | decide | omega⟩, ⟨by first | decide | omega, by first | decide | omega⟩, ⟨by first | decide | omega, by first | decide | omega⟩, ⟨by first | decide | omega, by first | decide | omega⟩, ⟨by first | decide | omega, by first | decide | omega⟩, ⟨by first | decide | omega, by first | decide | omega⟩, v342, v343, qsz, hrel, v344, (by exfalso; omega)⟩ hS hl
    · have hRK := hw_RK3.kept hRK (fun q9 h9 l9 => hk q9 l9 (by rcases h9 with h9 | h9 <;> exact hw_AWn h9 (by decide) l9))
      have v31 := va_at.kept v31 (hk _ (hw_lt v31) (hw_AWn gx (by decide) (hw_lt v31)))
      have v32 := va_at.kept v32 (hk _ (hw_lt v32) (hw_AWn (hw_RX_13 Rx) (by decide) (hw_lt v32)))
      refine lv_pop hx hb dL_law_1060 rfl ?_
      refine lv_goto (tgt := 1187) hx hb dL_law_1061 (by decide) ?_
      refine W.widen (k := k + 20) (n := n + 80) (by first | omega | (show _ ≤ _; omega)) (by first | omega | (show _ ≤ _; omega)) ?_
      exact hk9 _ _ _ ⟨G1, rx, rm, pnx, pcx, ksx, scx, udm, kym, lom, wkm, dkm, lnm, smm, fim, bem, rkm, rlm, rwm, clm, dgm, fq, la, sz9, fla, fsz, th, f30, f352, hH, hGe1, wx, wm, gx, gm, Rx, v31, ⟨by first | decide | omega, by first | decide | omega⟩, v32, hRK, Rm, v354, ⟨by first | decide | omega, by first | decide | omega⟩, ⟨by first | decide | omega, by first | decide | omega⟩, ⟨by first | decide | omega, by first | decide | omega⟩, ⟨by first | decide | omega, by first | decide | omega⟩, ⟨by first | decide | omega, by first | decide | omega⟩, ⟨by first | decide | omega, by first | decide | omega⟩, ⟨by first | decide | omega, by first | decide | omega⟩, ⟨by first | decide | omega, by first | decide | omega⟩, ⟨by first | decide | omega, by first | decide | omega⟩, ⟨by first | decide | omega, by first | decide | omega⟩, ⟨by first | decide | omega, by first | decide | omega⟩, ⟨by first | decide | omega, by first | decide | omega⟩, v355, v356, qsz, hrel, v357, (by exfalso; omega)⟩ hS hl
    · have q380i := hw_ieq q380
      have hRK := hw_RK3.kept hRK (fun q9 h9 l9 => hk q9 l9 (by rcases h9 with h9 | h9 <;> exact hw_AWn h9 (by decide) l9))
      have v31 := va_at.kept v31 (hk _ (hw_lt v31) (hw_AWn gx (by decide) (hw_lt v31)))
      have v32 := va_at.kept v32 (hk _ (hw_lt v32) (hw_AWn (hw_RX_13 Rx) (by decide) (hw_lt v32)))
      refine lv_pop hx hb dL_law_1060 rfl ?_
      refine lv_goto (tgt := 1187) hx hb dL_law_1061 (by decide) ?_
      refine W.widen (k := k + 20) (n := n + 80) (by first | omega | (show _ ≤ _; omega)) (by first | omega | (show _ ≤ _; omega)) ?_
      exact hk9 _ _ _ ⟨G1, rx, rm, pnx, pcx, ksx, scx, udm, kym, lom, wkm, dkm, lnm, smm, fim, bem, rkm, rlm, rwm, clm, dgm, fq, la, sz9, fla, fsz, th, f30, f367, hH, hGe1, wx, wm, gx, gm, Rx, v31, ⟨by first | decide | omega, by first | decide | omega⟩, v32, hRK, Rm, v369, ⟨by first | decide | omega, by first | decide | omega⟩, ⟨by first | decide | omega, by first | decide | omega⟩, ⟨by first | decide | omega, by first | decide | omega⟩, ⟨by first | decide | omega, by first | decide | omega⟩, ⟨by first | decide | omega, by first | decide | omega⟩, ⟨by first | decide | omega, by first | decide | omega⟩, ⟨by first | decide | omega, by first | decide | omega⟩, ⟨by first | decide | omega, by first | decide | omega⟩, ⟨by first | decide | omega, by first | decide | omega⟩, ⟨by first | decide | omega, by first | decide | omega⟩, ⟨by first | decide | omega, by first | decide | omega⟩, ⟨by first | decide | omega, by first | decide | omega⟩, v370, v371, qsz, hrel, v372, (hw_relT_copy hrt hz24 (by omega) (by omega) (by omega) (by omega) (by omega) q40 q41 q381)⟩ hS hl

