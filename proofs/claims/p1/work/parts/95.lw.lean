set_option maxHeartbeats 400000000 in
set_option maxRecDepth 100000 in
theorem whole_start {p : Program} {e : Env} {s : State} {m : MethodId} {below : List Frame} {meth : Method} {c : Code} (l : Launch) {b L : Nat} {xs : Nat → Int32} (hL : L ≤ 6) (C0 : lw_At p s m meth c b L xs) : W p l e room_1 s m #[Value.ref b] below meth c s.heap [] 0 0 (lw_Z below #[Value.ref b] s) (entryFrame m ([Value.ref b] : List Value).toArray 4) := by
  obtain ⟨hx, hb, hr, hml, hown, hts0, hX, hbl, hlocks, hgv⟩ := C0
  have hts : ∀ w ∈ wsL_law, w.before #[Value.ref b] s = true := fun w h => hts0 w (wsL_law_in w h)
  obtain ⟨dS, hST0⟩ := hw_start hgv hts0
  obtain ⟨DK, dA, hK0⟩ := hw_kstart hts0 hST0.ex
  obtain ⟨D, hD⟩ : ∃ D : hw_D, D = (DK, dA, dS) := ⟨_, rfl⟩
  have hK : va_K D.1 vwCl (hw_ty D.2.1) s := by rw [hD]; exact hK0
  obtain ⟨G, hG0⟩ : ∃ G : Nat → Nat, G = fun _ => 0 := ⟨_, rfl⟩
  have hST : hw_ST D.2.2 G s.heap.size s := by rw [hD, hG0]; exact hST0
  have hH : hw_HT D G s.heap := fun a h => absurd (by rw [hG0]) h
  have hS : va_S (hw_AW G [1, 2, 3, 4, 5, 6, 7, 8, 9, 10, 11, 12, 13, 14, 15, 16, 17, 18, 19, 20, 21, 22, 23, 24, 25, 26, 27, 28, 29, 30, 31, 32, 40, 42, 44, 45, 46, 48, 49, 50, 51, 53, 55, 58, 59, 67, 68, 69, 70, 71, 72, 73, 74, 75, 76, 77, 78, 79, 80, 81, 82, 83, 84, 101, 102, 103, 104, 105, 106, 107, 108, 109, 127, 128, 129, 132] s.heap.size) s.heap s.heap [] := va_S.rf
  have hbA : ¬ (hw_AW G [1, 2, 3, 4, 5, 6, 7, 8, 9, 10, 11, 12, 13, 14, 15, 16, 17, 18, 19, 20, 21, 22, 23, 24, 25, 26, 27, 28, 29, 30, 31, 32, 40, 42, 44, 45, 46, 48, 49, 50, 51, 53, 55, 58, 59, 67, 68, 69, 70, 71, 72, 73, 74, 75, 76, 77, 78, 79, 80, 81, 82, 83, 84, 101, 102, 103, 104, 105, 106, 107, 108, 109, 127, 128, 129, 132] s.heap.size) b := hw_AWn (k := 0) (by rw [hG0]) (by decide) hbl
  have hLi : (Int32.ofNat L).toInt = (L : Int) := nI_toInt (by omega)
  have hl := lv_entry ([.ref b]) (n := 4) (Nat.le_of_ble_eq_true rfl)
  rw [lg_entry_eq]
  generalize (lg_sl ([.ref b]) ++ List.replicate (4 - (lg_sl ([.ref b])).length) Slot.unset).toArray = ls at hl ⊢
  have hl : lv_has ls 4 [(0, .ref b)] := hl
  have hS0 := hS
  refine hw_new hx hb 101 (ci := 10) (C := RX11) (T := TX11) (N := 14) hts0 hw_layX11 tyX11 tyX11_ok hown (hts0 (.classLink RL 7 RX11) (by decide +kernel)) (hts0 (.instantiable RX11 14) (by decide +kernel)) (hts0 (.initialized RX11) (by decide +kernel)) hK hH hS rfl [.null, .null, .null, .null, .int 0, .int 0, .null, .null, .int 0, .null, .null, .int 0, .null, .null] (fun j hj => by rcases (show j = 0 ∨ j = 1 ∨ j = 2 ∨ j = 3 ∨ j = 4 ∨ j = 5 ∨ j = 6 ∨ j = 7 ∨ j = 8 ∨ j = 9 ∨ j = 10 ∨ j = 11 ∨ j = 12 ∨ j = 13 by omega) with rfl | rfl | rfl | rfl | rfl | rfl | rfl | rfl | rfl | rfl | rfl | rfl | rfl | rfl <;> rfl) (show hw_ok D.2.1 G 101 _ from ⟨_, rfl⟩) (Nat.le_of_ble_eq_true rfl) (Nat.le_of_ble_eq_true rfl) dL_law_0 (fun q1 G2 H hH m3 m4 k5 l6 e7 v8 oq hz hS => ?_)
  have w9 : s.heap.size ≤ q1 := by have := hS0.1; omega
  have g10 : ∀ x, x < s.heap.size → G2 x = G x := fun x h9 => (l6 x (Nat.lt_of_lt_of_le h9 hS0.1)).trans ((fun _ _ => rfl) x h9)
  refine lv_dup hx hb dL_law_3 rfl ?_
  have hHo := hH
  have hS0 := hS
  refine hw_cM (va_runI (As := []) (rest := [.ref q1]) ⟨hx, hb, hml, hown, hts⟩ (k_X11_init l D G2 q1 _ k5) (cwI 0 hts gL_law_X11_init rfl rfl rfl (hts0 (.initialized RX11) (by decide +kernel)) (hts0 (.methodLink RL 9 yX11_init) (by decide +kernel)) (hts0 (.instanceMethod yX11_init) (by decide +kernel)) rfl (by decide +kernel) ⟨Nat.le_of_ble_eq_true rfl, Nat.le_of_ble_eq_true rfl⟩) (hw_pS hH hK hST hS (by decide) (hw_hG g10) v8) rfl rfl hl.1 rfl (lv_room (Nat.le_of_ble_eq_true rfl)) dL_law_4 ⟨Nat.le_of_ble_eq_true rfl, Nat.le_of_ble_eq_true rfl⟩) hS (hw_AWsub (by decide) g10 hS.1) (fun v H locs hp hz hk hS => ?_)
  obtain ⟨G11, r14, r15, r16, r17, fq, rfl, hH, i12, k13, R18, v19, x20, x21, x22, x23, x24, x25, x26, x27⟩ := hp
  have m28 : ∀ a, G2 a ≠ 0 → G2 a < 100 → G11 a = G2 a := fun a h0 h1 => i12 a (hHo.lt h0) (fun e => by rw [e, k5] at h1; exact absurd h1 (by decide))
  have g29 : ∀ x, x < s.heap.size → G11 x = G x := fun x h9 => (i12 x (Nat.lt_of_lt_of_le h9 hS0.1) (fun e => by have := w9; omega)).trans (g10 x h9)
  have hRK := x27
  have q30 := hRK.q
  refine lv_astore_n (lv' := [(1, .ref q1), (0, .ref b)]) hx hb dL_law_7 rfl hl (by decide) rfl (fun ls hl => ?_)
  have hS0 := hS
  refine hw_new hx hb 109 (ci := 11) (C := RX12) (T := TX12) (N := 45) hts0 hw_layX12 tyX12 tyX12_ok hown (hts0 (.classLink RL 10 RX12) (by decide +kernel)) (hts0 (.instantiable RX12 45) (by decide +kernel)) (hts0 (.initialized RX12) (by decide +kernel)) hK hH hS rfl [.null, .int 0, .null, .int 0, .null, .null, .null, .int 0, .null, .null, .null, .null, .int 0, .null, .int 0, .null, .int 0, .int 0, .null, .null, .int 0, .int 0, .int 0, .int 0, .int 0, .int 0, .int 0, .null, .null, .null, .null, .null, .null, .null, .null, .null, .null, .null, .null, .null, .null, .null, .null, .null, .null] (fun j hj => by rcases (show j = 0 ∨ j = 1 ∨ j = 2 ∨ j = 3 ∨ j = 4 ∨ j = 5 ∨ j = 6 ∨ j = 7 ∨ j = 8 ∨ j = 9 ∨ j = 10 ∨ j = 11 ∨ j = 12 ∨ j = 13 ∨ j = 14 ∨ j = 15 ∨ j = 16 ∨ j = 17 ∨ j = 18 ∨ j = 19 ∨ j = 20 ∨ j = 21 ∨ j = 22 ∨ j = 23 ∨ j = 24 ∨ j = 25 ∨ j = 26 ∨ j = 27 ∨ j = 28 ∨ j = 29 ∨ j = 30 ∨ j = 31 ∨ j = 32 ∨ j = 33 ∨ j = 34 ∨ j = 35 ∨ j = 36 ∨ j = 37 ∨ j = 38 ∨ j = 39 ∨ j = 40 ∨ j = 41 ∨ j = 42 ∨ j = 43 ∨ j = 44 by omega) with rfl | rfl | rfl | rfl | rfl | rfl | rfl | rfl | rfl | rfl | rfl | rfl | rfl | rfl | rfl | rfl | rfl | rfl | rfl | rfl | rfl | rfl | rfl | rfl | rfl | rfl | rfl | rfl | rfl | rfl | rfl | rfl | rfl | rfl | rfl | rfl | rfl | rfl | rfl | rfl | rfl | rfl | rfl | rfl | rfl <;> rfl) (show hw_ok D.2.1 G11 109 _ from ⟨_, rfl⟩) (Nat.le_of_ble_eq_true rfl) (Nat.le_of_ble_eq_true rfl) dL_law_8 (fun q31 G32 H hH m33 m34 k35 l36 e37 v38 oq hz hS => ?_)
  have w39 : s.heap.size ≤ q31 := by have := hS0.1; omega
  have g40 : ∀ x, x < s.heap.size → G32 x = G x := fun x h9 => (l36 x (Nat.lt_of_lt_of_le h9 hS0.1)).trans (g29 x h9)
  have v19 := va_at.kept v19 (oq _ (hw_lt v19))
  have x21 := va_at.kept x21 (oq _ (hw_lt x21))
  have x23 := va_at.kept x23 (oq _ (hw_lt x23))
  have x25 := va_at.kept x25 (oq _ (hw_lt x25))
  have x26 := va_at.kept x26 (oq _ (hw_lt x26))
  have hRK := hw_Racks.grow hRK oq m33
  have k41 := hw_kg m33 k13 (by decide) (by decide)
  have R42 := hw_RX_mono m33 R18
  have k43 := hw_kg m33 (hw_RX_0 R18) (by decide) (by decide)
  have R44 := hw_RC_mono m33 x20
  have k45 := hw_kg m33 (hw_RX_1 R18) (by decide) (by decide)
  have R46 := hw_RT_mono m33 x22
  have k47 := hw_kg m33 (hw_RX_2 R18) (by decide) (by decide)
  have R48 := hw_RS_mono m33 x24
  have k49 := hw_kg m33 (hw_RX_13 R18) (by decide) (by decide)
  have q50 := hw_qn m33 q30 (by decide) (by decide)
  refine lv_dup hx hb dL_law_11 rfl ?_
  have hHo := hH
  have hS0 := hS
  refine hw_cM (va_runI (As := []) (rest := [.ref q31]) ⟨hx, hb, hml, hown, hts⟩ (k_X12_init l D G32 q31 _ k35) (cwI 0 hts gL_law_X12_init rfl rfl rfl (hts0 (.initialized RX12) (by decide +kernel)) (hts0 (.methodLink RL 12 yX12_init) (by decide +kernel)) (hts0 (.instanceMethod yX12_init) (by decide +kernel)) rfl (by decide +kernel) ⟨Nat.le_of_ble_eq_true rfl, Nat.le_of_ble_eq_true rfl⟩) (hw_pS hH hK hST hS (by decide) (hw_hG g40) v38) rfl rfl hl.1 rfl (lv_room (Nat.le_of_ble_eq_true rfl)) dL_law_12 ⟨Nat.le_of_ble_eq_true rfl, Nat.le_of_ble_eq_true rfl⟩) hS (hw_AWsub (by decide) g40 hS.1) (fun v H locs hp hz hk hS => ?_)
  obtain ⟨G51, r54, fro, fik, fla, fsz, rfl, hH, i52, k53, R55, v56, x57, x58, x59, x60, x61, x62, x63⟩ := hp
  have v19 := va_at.kept v19 (hk _ (hw_lt v19) (hw_AWn k41 (by decide) (hw_lt v19)))
  have x21 := va_at.kept x21 (hk _ (hw_lt x21) (hw_AWn k43 (by decide) (hw_lt x21)))
  have x23 := va_at.kept x23 (hk _ (hw_lt x23) (hw_AWn k45 (by decide) (hw_lt x23)))
  have x25 := va_at.kept x25 (hk _ (hw_lt x25) (hw_AWn k47 (by decide) (hw_lt x25)))
  have x26 := va_at.kept x26 (hk _ (hw_lt x26) (hw_AWn k49 (by decide) (hw_lt x26)))
  have m64 : ∀ a, G32 a ≠ 0 → G32 a < 100 → G51 a = G32 a := fun a h0 h1 => i52 a (hHo.lt h0) (fun e => by rw [e, k35] at h1; exact absurd h1 (by decide))
  have g65 : ∀ x, x < s.heap.size → G51 x = G x := fun x h9 => (i52 x (Nat.lt_of_lt_of_le h9 hS0.1) (fun e => by have := w39; omega)).trans (g40 x h9)
  have hRK := hw_Racks.grow (hRK.kept (fun q9 h9 l9 => hk q9 l9 (hw_AWn h9 (by decide) l9))) (fun _ _ => rfl) m64
  have k66 := hw_kg m64 k41 (by decide) (by decide)
  have R67 := hw_RX_mono m64 R42
  have k68 := hw_kg m64 k43 (by decide) (by decide)
  have R69 := hw_RC_mono m64 R44
  have k70 := hw_kg m64 k45 (by decide) (by decide)
  have R71 := hw_RT_mono m64 R46
  have k72 := hw_kg m64 k47 (by decide) (by decide)
  have R73 := hw_RS_mono m64 R48
  have k74 := hw_kg m64 k49 (by decide) (by decide)
  have q75 := hw_qn m64 q50 (by decide) (by decide)
  have q76 : ∀ j, j < 4 → -1 ≤ (fsz j).toInt ∧ (fsz j).toInt ≤ 24 := fun j hj => by rw [x63 j hj]; decide
  have hro := x58
  have hik := x60
  have hfs := x63
  refine lv_astore_n (lv' := [(2, .ref q31), (1, .ref q1), (0, .ref b)]) hx hb dL_law_15 rfl hl (by decide) rfl (fun ls hl => ?_)
  refine lv_iconst (v := 0) hx hb dL_law_16 (by decide) ?_
  refine lv_istore_n (lv' := [(3, .int 0), (2, .ref q31), (1, .ref q1), (0, .ref b)]) hx hb dL_law_17 rfl hl (by decide) rfl (fun ls hl => ?_)
  refine lv_iload_n hx hb dL_law_18 rfl (lv_at hl 0 rfl) ?_
  refine lv_aload_n hx hb dL_law_19 rfl (lv_at hl 3 rfl) ?_
  refine va_slen hx hb hX hbl hbA hS dL_law_20 ?_
  refine lv_bipush (v := 6) hx hb dL_law_21 (by decide) ?_
  refine lv_isub hx hb dL_law_23 ?_
  refine lv_topi (fun x77 e78 => ?_)
  have t79 : x77.toInt = (Int32.ofNat L).toInt - 6 := by rw [e78]; exact hw_sub rfl rfl (by omega) (by omega)
  refine lv_icmp_gt (tgt := 1194) hx hb dL_law_24 (by decide) (fun c80 => ?_) (fun c80 => ?_)
  · have b81 : x77.toInt < 0 := hw_ilt c80
    refine lv_iconst (v := 1) hx hb dL_law_1194 (by decide) ?_
    have hfg := hw_hfg hG0 (by decide) hS.2.2
    refine va_forget hfg ?_
    refine W.widen (k := 600000) (n := 7302250) (by decide) (by decide) ?_
    exact lw_ret hx hb hr hlocks dL_law_1195
  · have b82 : 0 ≤ x77.toInt := hw_inlt c80
    refine lv_aload_n hx hb dL_law_27 rfl (lv_at hl 3 rfl) ?_
    refine lv_iload_n hx hb dL_law_28 rfl (lv_at hl 0 rfl) ?_
    refine va_sld hx hb hX hbl hbA hS (hw_in (x := 0) (by decide) (by have h9 : (0 : Int32).toInt = 0 := rfl; omega)) dL_law_29 ?_
    refine W.eq (g2 := F0 m 30 ls [.int (xs 0)]) rfl ?_
    refine lv_bipush (v := 63) hx hb dL_law_30 (by decide) ?_
    refine lv_iand hx hb dL_law_32 ?_
    refine lv_topi (fun x83 e84 => ?_)
    have t85 : 0 ≤ x83.toInt ∧ x83.toInt ≤ 63 := by rw [e84]; exact hw_and (by first | decide | omega)
    by_cases w86 : x83.toInt < 0 ∨ 33 < x83.toInt
    · refine lv_tableOut (tgt := 1188) hx hb dL_law_33 w86 (by decide) ?_
      refine lv_iinc (v := 6) (lv' := [(3, .int 6), (2, .ref q31), (1, .ref q1), (0, .ref b)]) hx hb dL_law_1188 hl (k := 0) rfl (by rfl) (by decide) rfl (fun ls hl => ?_)
      refine lv_goto (tgt := 18) hx hb dL_law_1191 (by decide) ?_
      refine lv_iload_n hx hb dL_law_18 rfl (lv_at hl 0 rfl) ?_
      refine lv_aload_n hx hb dL_law_19 rfl (lv_at hl 3 rfl) ?_
      refine va_slen hx hb hX hbl hbA hS dL_law_20 ?_
      refine lv_bipush (v := 6) hx hb dL_law_21 (by decide) ?_
      refine lv_isub hx hb dL_law_23 ?_
      refine lv_topi (fun x87 e88 => ?_)
      have t89 : x87.toInt = (Int32.ofNat L).toInt - 6 := by rw [e88]; exact hw_sub rfl rfl (by omega) (by omega)
      refine lv_icmp_gt (tgt := 1194) hx hb dL_law_24 (by decide) (fun c90 => ?_) (fun c90 => ?_)
      · have b91 : x87.toInt < 6 := hw_ilt c90
        refine lv_iconst (v := 1) hx hb dL_law_1194 (by decide) ?_
        have hfg := hw_hfg hG0 (by decide) hS.2.2
        refine va_forget hfg ?_
        refine W.widen (k := 600000) (n := 7302250) (by decide) (by decide) ?_
        exact lw_ret hx hb hr hlocks dL_law_1195
      · have b92 : 6 ≤ x87.toInt := hw_inlt c90
        exfalso; omega
    · rcases (show x83.toInt = 0 ∨ x83.toInt = 1 ∨ x83.toInt = 2 ∨ x83.toInt = 3 ∨ x83.toInt = 4 ∨ x83.toInt = 5 ∨ x83.toInt = 6 ∨ x83.toInt = 7 ∨ x83.toInt = 8 ∨ x83.toInt = 9 ∨ x83.toInt = 10 ∨ x83.toInt = 11 ∨ x83.toInt = 12 ∨ x83.toInt = 13 ∨ x83.toInt = 14 ∨ x83.toInt = 15 ∨ x83.toInt = 16 ∨ x83.toInt = 17 ∨ x83.toInt = 18 ∨ x83.toInt = 19 ∨ x83.toInt = 20 ∨ x83.toInt = 21 ∨ x83.toInt = 22 ∨ x83.toInt = 23 ∨ x83.toInt = 24 ∨ x83.toInt = 25 ∨ x83.toInt = 26 ∨ x83.toInt = 27 ∨ x83.toInt = 28 ∨ x83.toInt = 29 ∨ x83.toInt = 30 ∨ x83.toInt = 31 ∨ x83.toInt = 32 ∨ x83.toInt = 33 by omega) with w86 | w86 | w86 | w86 | w86 | w86 | w86 | w86 | w86 | w86 | w86 | w86 | w86 | w86 | w86 | w86 | w86 | w86 | w86 | w86 | w86 | w86 | w86 | w86 | w86 | w86 | w86 | w86 | w86 | w86 | w86 | w86 | w86 | w86
      · refine lv_tableIn (tgt := 184) (off := 151) hx hb dL_law_33 (by omega) (by omega) (by rw [w86]; rfl) (by decide) ?_
        refine W.widen (k := 200) (n := 8000) (by decide) (by decide) ?_
        exact hw_case184 l hL (by omega) hx hb hr hml hown hts0 hts hX hbl hlocks hG0 hK hST ⟨G51, r14, r15, r16, r17, fq, r54, fro, fik, fla, fsz, hH, g65, w9, w39, k66, k53, R67, v19, R69, x21, R71, x23, R73, x25, x26, hRK, R55, v56, x57, hro, x59, hik, x61, x62, hfs⟩ hS hl
      · refine lv_tableIn (tgt := 207) (off := 174) hx hb dL_law_33 (by omega) (by omega) (by rw [w86]; rfl) (by decide) ?_
        refine W.widen (k := 200) (n := 8000) (by decide) (by decide) ?_
        exact hw_case207 l hL (by omega) hx hb hr hml hown hts0 hts hX hbl hlocks hG0 hK hST ⟨G51, r14, r15, r16, r17, fq, r54, fro, fik, fla, fsz, hH, g65, w9, w39, k66, k53, R67, v19, R69, x21, R71, x23, R73, x25, x26, hRK, R55, v56, x57, hro, x59, hik, x61, x62, hfs⟩ hS hl
      · refine lv_tableIn (tgt := 220) (off := 187) hx hb dL_law_33 (by omega) (by omega) (by rw [w86]; rfl) (by decide) ?_
        refine W.widen (k := 200) (n := 8000) (by decide) (by decide) ?_
        exact hw_case220 l hL (by omega) hx hb hr hml hown hts0 hts hX hbl hlocks hG0 hK hST ⟨G51, r14, r15, r16, r17, fq, r54, fro, fik, fla, fsz, hH, g65, w9, w39, k66, k53, R67, v19, R69, x21, R71, x23, R73, x25, x26, hRK, R55, v56, x57, hro, x59, hik, x61, x62, hfs⟩ hS hl
      · refine lv_tableIn (tgt := 233) (off := 200) hx hb dL_law_33 (by omega) (by omega) (by rw [w86]; rfl) (by decide) ?_
        refine W.widen (k := 200) (n := 8000) (by decide) (by decide) ?_
        exact hw_case233 l hL (by omega) hx hb hr hml hown hts0 hts hX hbl hlocks hG0 hK hST ⟨G51, r14, r15, r16, r17, fq, r54, fro, fik, fla, fsz, hH, g65, w9, w39, k66, k53, R67, v19, R69, x21, R71, x23, R73, x25, x26, hRK, R55, v56, x57, hro, x59, hik, x61, x62, hfs⟩ hS hl
      · refine lv_tableIn (tgt := 246) (off := 213) hx hb dL_law_33 (by omega) (by omega) (by rw [w86]; rfl) (by decide) ?_
        refine W.widen (k := 200) (n := 8000) (by decide) (by decide) ?_
        exact hw_case246 l hL (by omega) hx hb hr hml hown hts0 hts hX hbl hlocks hG0 hK hST ⟨G51, r14, r15, r16, r17, fq, r54, fro, fik, fla, fsz, hH, g65, w9, w39, k66, k53, R67, v19, R69, x21, R71, x23, R73, x25, x26, hRK, R55, v56, x57, hro, x59, hik, x61, x62, hfs⟩ hS hl
      · refine lv_tableIn (tgt := 279) (off := 246) hx hb dL_law_33 (by omega) (by omega) (by rw [w86]; rfl) (by decide) ?_
        refine W.widen (k := 200) (n := 8000) (by decide) (by decide) ?_
        exact hw_case279 l hL (by omega) hx hb hr hml hown hts0 hts hX hbl hlocks hG0 hK hST ⟨G51, r14, r15, r16, r17, fq, r54, fro, fik, fla, fsz, hH, g65, w9, w39, k66, k53, R67, v19, R69, x21, R71, x23, R73, x25, x26, hRK, R55, v56, x57, hro, x59, hik, x61, x62, hfs⟩ hS hl
      · refine lv_tableIn (tgt := 312) (off := 279) hx hb dL_law_33 (by omega) (by omega) (by rw [w86]; rfl) (by decide) ?_
        refine W.widen (k := 200) (n := 8000) (by decide) (by decide) ?_
        exact hw_case312 l hL (by omega) hx hb hr hml hown hts0 hts hX hbl hlocks hG0 hK hST ⟨G51, r14, r15, r16, r17, fq, r54, fro, fik, fla, fsz, hH, g65, w9, w39, k66, k53, R67, v19, R69, x21, R71, x23, R73, x25, x26, hRK, R55, v56, x57, hro, x59, hik, x61, x62, hfs⟩ hS hl
      · refine lv_tableIn (tgt := 345) (off := 312) hx hb dL_law_33 (by omega) (by omega) (by rw [w86]; rfl) (by decide) ?_
        refine W.widen (k := 200) (n := 8000) (by decide) (by decide) ?_
        exact hw_case345 l hL (by omega) hx hb hr hml hown hts0 hts hX hbl hlocks hG0 hK hST ⟨G51, r14, r15, r16, r17, fq, r54, fro, fik, fla, fsz, hH, g65, w9, w39, k66, k53, R67, v19, R69, x21, R71, x23, R73, x25, x26, hRK, R55, v56, x57, hro, x59, hik, x61, x62, hfs⟩ hS hl
      · refine lv_tableIn (tgt := 388) (off := 355) hx hb dL_law_33 (by omega) (by omega) (by rw [w86]; rfl) (by decide) ?_
        refine W.widen (k := 200) (n := 8000) (by decide) (by decide) ?_
        exact hw_case388 l hL (by omega) hx hb hr hml hown hts0 hts hX hbl hlocks hG0 hK hST ⟨G51, r14, r15, r16, r17, fq, r54, fro, fik, fla, fsz, hH, g65, w9, w39, k66, k53, R67, v19, R69, x21, R71, x23, R73, x25, x26, hRK, R55, v56, x57, hro, x59, hik, x61, x62, hfs⟩ hS hl
      · refine lv_tableIn (tgt := 421) (off := 388) hx hb dL_law_33 (by omega) (by omega) (by rw [w86]; rfl) (by decide) ?_
        refine W.widen (k := 200) (n := 8000) (by decide) (by decide) ?_
        exact hw_case421 l hL (by omega) hx hb hr hml hown hts0 hts hX hbl hlocks hG0 hK hST ⟨G51, r14, r15, r16, r17, fq, r54, fro, fik, fla, fsz, hH, g65, w9, w39, k66, k53, R67, v19, R69, x21, R71, x23, R73, x25, x26, hRK, R55, v56, x57, hro, x59, hik, x61, x62, hfs⟩ hS hl
      · refine lv_tableIn (tgt := 464) (off := 431) hx hb dL_law_33 (by omega) (by omega) (by rw [w86]; rfl) (by decide) ?_
        refine W.widen (k := 200) (n := 8000) (by decide) (by decide) ?_
        exact hw_case464 l hL (by omega) hx hb hr hml hown hts0 hts hX hbl hlocks hG0 hK hST ⟨G51, r14, r15, r16, r17, fq, r54, fro, fik, fla, fsz, hH, g65, w9, w39, k66, k53, R67, v19, R69, x21, R71, x23, R73, x25, x26, hRK, R55, v56, x57, hro, x59, hik, x61, x62, hfs⟩ hS hl
      · refine lv_tableIn (tgt := 487) (off := 454) hx hb dL_law_33 (by omega) (by omega) (by rw [w86]; rfl) (by decide) ?_
        refine W.widen (k := 200) (n := 8000) (by decide) (by decide) ?_
        exact hw_case487 l hL (by omega) hx hb hr hml hown hts0 hts hX hbl hlocks hG0 hK hST ⟨G51, r14, r15, r16, r17, fq, r54, fro, fik, fla, fsz, hH, g65, w9, w39, k66, k53, R67, v19, R69, x21, R71, x23, R73, x25, x26, hRK, R55, v56, x57, hro, x59, hik, x61, x62, hfs⟩ hS hl
      · refine lv_tableIn (tgt := 510) (off := 477) hx hb dL_law_33 (by omega) (by omega) (by rw [w86]; rfl) (by decide) ?_
        refine W.widen (k := 200) (n := 8000) (by decide) (by decide) ?_
        exact hw_case510 l hL (by omega) hx hb hr hml hown hts0 hts hX hbl hlocks hG0 hK hST ⟨G51, r14, r15, r16, r17, fq, r54, fro, fik, fla, fsz, hH, g65, w9, w39, k66, k53, R67, v19, R69, x21, R71, x23, R73, x25, x26, hRK, R55, v56, x57, hro, x59, hik, x61, x62, hfs⟩ hS hl
      · refine lv_tableIn (tgt := 523) (off := 490) hx hb dL_law_33 (by omega) (by omega) (by rw [w86]; rfl) (by decide) ?_
        refine W.widen (k := 200) (n := 8000) (by decide) (by decide) ?_
        exact hw_case523 l hL (by omega) hx hb hr hml hown hts0 hts hX hbl hlocks hG0 hK hST ⟨G51, r14, r15, r16, r17, fq, r54, fro, fik, fla, fsz, hH, g65, w9, w39, k66, k53, R67, v19, R69, x21, R71, x23, R73, x25, x26, hRK, R55, v56, x57, hro, x59, hik, x61, x62, hfs⟩ hS hl
      · refine lv_tableIn (tgt := 536) (off := 503) hx hb dL_law_33 (by omega) (by omega) (by rw [w86]; rfl) (by decide) ?_
        refine W.widen (k := 200) (n := 8000) (by decide) (by decide) ?_
        exact hw_case536 l hL (by omega) hx hb hr hml hown hts0 hts hX hbl hlocks hG0 hK hST ⟨G51, r14, r15, r16, r17, fq, r54, fro, fik, fla, fsz, hH, g65, w9, w39, k66, k53, R67, v19, R69, x21, R71, x23, R73, x25, x26, hRK, R55, v56, x57, hro, x59, hik, x61, x62, hfs⟩ hS hl
      · refine lv_tableIn (tgt := 559) (off := 526) hx hb dL_law_33 (by omega) (by omega) (by rw [w86]; rfl) (by decide) ?_
        refine W.widen (k := 200) (n := 8000) (by decide) (by decide) ?_
        exact hw_case559 l hL (by omega) hx hb hr hml hown hts0 hts hX hbl hlocks hG0 hK hST ⟨G51, r14, r15, r16, r17, fq, r54, fro, fik, fla, fsz, hH, g65, w9, w39, k66, k53, R67, v19, R69, x21, R71, x23, R73, x25, x26, hRK, R55, v56, x57, hro, x59, hik, x61, x62, hfs⟩ hS hl
      · refine lv_tableIn (tgt := 582) (off := 549) hx hb dL_law_33 (by omega) (by omega) (by rw [w86]; rfl) (by decide) ?_
        refine W.widen (k := 200) (n := 8000) (by decide) (by decide) ?_
        exact hw_case582 l hL (by omega) hx hb hr hml hown hts0 hts hX hbl hlocks hG0 hK hST ⟨G51, r14, r15, r16, r17, fq, r54, fro, fik, fla, fsz, hH, g65, w9, w39, k66, k53, R67, v19, R69, x21, R71, x23, R73, x25, x26, hRK, R55, v56, x57, hro, x59, hik, x61, x62, hfs⟩ hS hl
      · refine lv_tableIn (tgt := 605) (off := 572) hx hb dL_law_33 (by omega) (by omega) (by rw [w86]; rfl) (by decide) ?_
        refine W.widen (k := 200) (n := 8000) (by decide) (by decide) ?_
        exact hw_case605 l hL (by omega) hx hb hr hml hown hts0 hts hX hbl hlocks hG0 hK hST ⟨G51, r14, r15, r16, r17, fq, r54, fro, fik, fla, fsz, hH, g65, w9, w39, k66, k53, R67, v19, R69, x21, R71, x23, R73, x25, x26, hRK, R55, v56, x57, hro, x59, hik, x61, x62, hfs⟩ hS hl
      · refine lv_tableIn (tgt := 628) (off := 595) hx hb dL_law_33 (by omega) (by omega) (by rw [w86]; rfl) (by decide) ?_
        refine W.widen (k := 200) (n := 8000) (by decide) (by decide) ?_
        exact hw_case628 l hL (by omega) hx hb hr hml hown hts0 hts hX hbl hlocks hG0 hK hST ⟨G51, r14, r15, r16, r17, fq, r54, fro, fik, fla, fsz, hH, g65, w9, w39, k66, k53, R67, v19, R69, x21, R71, x23, R73, x25, x26, hRK, R55, v56, x57, hro, x59, hik, x61, x62, hfs⟩ hS hl
      · refine lv_tableIn (tgt := 651) (off := 618) hx hb dL_law_33 (by omega) (by omega) (by rw [w86]; rfl) (by decide) ?_
        refine W.widen (k := 200) (n := 8000) (by decide) (by decide) ?_
        exact hw_case651 l hL (by omega) hx hb hr hml hown hts0 hts hX hbl hlocks hG0 hK hST ⟨G51, r14, r15, r16, r17, fq, r54, fro, fik, fla, fsz, hH, g65, w9, w39, k66, k53, R67, v19, R69, x21, R71, x23, R73, x25, x26, hRK, R55, v56, x57, hro, x59, hik, x61, x62, hfs⟩ hS hl
      · refine lv_tableIn (tgt := 674) (off := 641) hx hb dL_law_33 (by omega) (by omega) (by rw [w86]; rfl) (by decide) ?_
        refine W.widen (k := 200) (n := 8000) (by decide) (by decide) ?_
        exact hw_case674 l hL (by omega) hx hb hr hml hown hts0 hts hX hbl hlocks hG0 hK hST ⟨G51, r14, r15, r16, r17, fq, r54, fro, fik, fla, fsz, hH, g65, w9, w39, k66, k53, R67, v19, R69, x21, R71, x23, R73, x25, x26, hRK, R55, v56, x57, hro, x59, hik, x61, x62, hfs⟩ hS hl
      · refine lv_tableIn (tgt := 697) (off := 664) hx hb dL_law_33 (by omega) (by omega) (by rw [w86]; rfl) (by decide) ?_
        refine W.widen (k := 200) (n := 8000) (by decide) (by decide) ?_
        exact hw_case697 l hL (by omega) hx hb hr hml hown hts0 hts hX hbl hlocks hG0 hK hST ⟨G51, r14, r15, r16, r17, fq, r54, fro, fik, fla, fsz, hH, g65, w9, w39, k66, k53, R67, v19, R69, x21, R71, x23, R73, x25, x26, hRK, R55, v56, x57, hro, x59, hik, x61, x62, hfs⟩ hS hl
      · refine lv_tableIn (tgt := 730) (off := 697) hx hb dL_law_33 (by omega) (by omega) (by rw [w86]; rfl) (by decide) ?_
        refine W.widen (k := 200) (n := 8000) (by decide) (by decide) ?_
        exact hw_case730 l hL (by omega) hx hb hr hml hown hts0 hts hX hbl hlocks hG0 hK hST ⟨G51, r14, r15, r16, r17, fq, r54, fro, fik, fla, fsz, hH, g65, w9, w39, k66, k53, R67, v19, R69, x21, R71, x23, R73, x25, x26, hRK, R55, v56, x57, hro, x59, hik, x61, x62, hfs⟩ hS hl
      · refine lv_tableIn (tgt := 743) (off := 710) hx hb dL_law_33 (by omega) (by omega) (by rw [w86]; rfl) (by decide) ?_
        refine W.widen (k := 200) (n := 8000) (by decide) (by decide) ?_
        exact hw_case743 l hL (by omega) hx hb hr hml hown hts0 hts hX hbl hlocks hG0 hK hST ⟨G51, r14, r15, r16, r17, fq, r54, fro, fik, fla, fsz, hH, g65, w9, w39, k66, k53, R67, v19, R69, x21, R71, x23, R73, x25, x26, hRK, R55, v56, x57, hro, x59, hik, x61, x62, hfs⟩ hS hl
      · refine lv_tableIn (tgt := 766) (off := 733) hx hb dL_law_33 (by omega) (by omega) (by rw [w86]; rfl) (by decide) ?_
        refine W.widen (k := 200) (n := 8000) (by decide) (by decide) ?_
        exact hw_case766 l hL (by omega) hx hb hr hml hown hts0 hts hX hbl hlocks hG0 hK hST ⟨G51, r14, r15, r16, r17, fq, r54, fro, fik, fla, fsz, hH, g65, w9, w39, k66, k53, R67, v19, R69, x21, R71, x23, R73, x25, x26, hRK, R55, v56, x57, hro, x59, hik, x61, x62, hfs⟩ hS hl
      · refine lv_tableIn (tgt := 789) (off := 756) hx hb dL_law_33 (by omega) (by omega) (by rw [w86]; rfl) (by decide) ?_
        refine W.widen (k := 200) (n := 8000) (by decide) (by decide) ?_
        exact hw_case789 l hL (by omega) hx hb hr hml hown hts0 hts hX hbl hlocks hG0 hK hST ⟨G51, r14, r15, r16, r17, fq, r54, fro, fik, fla, fsz, hH, g65, w9, w39, k66, k53, R67, v19, R69, x21, R71, x23, R73, x25, x26, hRK, R55, v56, x57, hro, x59, hik, x61, x62, hfs⟩ hS hl
      · refine lv_tableIn (tgt := 842) (off := 809) hx hb dL_law_33 (by omega) (by omega) (by rw [w86]; rfl) (by decide) ?_
        refine W.widen (k := 200) (n := 8000) (by decide) (by decide) ?_
        exact hw_case842 l hL (by omega) hx hb hr hml hown hts0 hts hX hbl hlocks hG0 hK hST ⟨G51, r14, r15, r16, r17, fq, r54, fro, fik, fla, fsz, hH, g65, w9, w39, k66, k53, R67, v19, R69, x21, R71, x23, R73, x25, x26, hRK, R55, v56, x57, hro, x59, hik, x61, x62, hfs⟩ hS hl
      · refine lv_tableIn (tgt := 885) (off := 852) hx hb dL_law_33 (by omega) (by omega) (by rw [w86]; rfl) (by decide) ?_
        refine W.widen (k := 200) (n := 8000) (by decide) (by decide) ?_
        exact hw_case885 l hL (by omega) hx hb hr hml hown hts0 hts hX hbl hlocks hG0 hK hST ⟨G51, r14, r15, r16, r17, fq, r54, fro, fik, fla, fsz, hH, g65, w9, w39, k66, k53, R67, v19, R69, x21, R71, x23, R73, x25, x26, hRK, R55, v56, x57, hro, x59, hik, x61, x62, hfs⟩ hS hl
      · refine lv_tableIn (tgt := 968) (off := 935) hx hb dL_law_33 (by omega) (by omega) (by rw [w86]; rfl) (by decide) ?_
        refine W.widen (k := 200) (n := 8000) (by decide) (by decide) ?_
        exact hw_case968 l hL (by omega) hx hb hr hml hown hts0 hts hX hbl hlocks hG0 hK hST ⟨G51, r14, r15, r16, r17, fq, r54, fro, fik, fla, fsz, hH, g65, w9, w39, k66, k53, R67, v19, R69, x21, R71, x23, R73, x25, x26, hRK, R55, v56, x57, hro, x59, hik, x61, x62, hfs⟩ hS hl
      · refine lv_tableIn (tgt := 1002) (off := 969) hx hb dL_law_33 (by omega) (by omega) (by rw [w86]; rfl) (by decide) ?_
        refine W.widen (k := 200) (n := 8000) (by decide) (by decide) ?_
        exact hw_case1002 l hL (by omega) hx hb hr hml hown hts0 hts hX hbl hlocks hG0 hK hST ⟨G51, r14, r15, r16, r17, fq, r54, fro, fik, fla, fsz, hH, g65, w9, w39, k66, k53, R67, v19, R69, x21, R71, x23, R73, x25, x26, hRK, R55, v56, x57, hro, x59, hik, x61, x62, hfs⟩ hS hl
      · refine lv_tableIn (tgt := 1065) (off := 1032) hx hb dL_law_33 (by omega) (by omega) (by rw [w86]; rfl) (by decide) ?_
        refine W.widen (k := 200) (n := 8000) (by decide) (by decide) ?_
        exact hw_case1065 l hL (by omega) hx hb hr hml hown hts0 hts hX hbl hlocks hG0 hK hST ⟨G51, r14, r15, r16, r17, fq, r54, fro, fik, fla, fsz, hH, g65, w9, w39, k66, k53, R67, v19, R69, x21, R71, x23, R73, x25, x26, hRK, R55, v56, x57, hro, x59, hik, x61, x62, hfs⟩ hS hl
      · refine lv_tableIn (tgt := 1088) (off := 1055) hx hb dL_law_33 (by omega) (by omega) (by rw [w86]; rfl) (by decide) ?_
        refine W.widen (k := 200) (n := 8000) (by decide) (by decide) ?_
        exact hw_case1088 l hL (by omega) hx hb hr hml hown hts0 hts hX hbl hlocks hG0 hK hST ⟨G51, r14, r15, r16, r17, fq, r54, fro, fik, fla, fsz, hH, g65, w9, w39, k66, k53, R67, v19, R69, x21, R71, x23, R73, x25, x26, hRK, R55, v56, x57, hro, x59, hik, x61, x62, hfs⟩ hS hl
      · refine lv_tableIn (tgt := 1122) (off := 1089) hx hb dL_law_33 (by omega) (by omega) (by rw [w86]; rfl) (by decide) ?_
        refine W.widen (k := 200) (n := 8000) (by decide) (by decide) ?_
        exact hw_case1122 l hL (by omega) hx hb hr hml hown hts0 hts hX hbl hlocks hG0 hK hST ⟨G51, r14, r15, r16, r17, fq, r54, fro, fik, fla, fsz, hH, g65, w9, w39, k66, k53, R67, v19, R69, x21, R71, x23, R73, x25, x26, hRK, R55, v56, x57, hro, x59, hik, x61, x62, hfs⟩ hS hl
      · refine lv_tableIn (tgt := 1165) (off := 1132) hx hb dL_law_33 (by omega) (by omega) (by rw [w86]; rfl) (by decide) ?_
        refine W.widen (k := 200) (n := 8000) (by decide) (by decide) ?_
        exact hw_case1165 l hL (by omega) hx hb hr hml hown hts0 hts hX hbl hlocks hG0 hK hST ⟨G51, r14, r15, r16, r17, fq, r54, fro, fik, fla, fsz, hH, g65, w9, w39, k66, k53, R67, v19, R69, x21, R71, x23, R73, x25, x26, hRK, R55, v56, x57, hro, x59, hik, x61, x62, hfs⟩ hS hl
