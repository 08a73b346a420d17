set_option maxHeartbeats 40000000 in
set_option maxRecDepth 100000 in
theorem hw_loop {p : Program} {e : Env} {s : State} {m : MethodId} {below : List Frame} {meth : Method} {c : Code} (l : Launch) {b L : Nat} {xs : Nat → Int32} {D : hw_D} {G : Nat → Nat} (hL : L ≤ 384) (hx : p.tables.exec = Jvm.exec) (hb : c.code = code) (hr : meth.sig.returnType = ret) (hml : c.maxLocals = 4) (hown : s.vm.findClass R_law = some m.cls) (hts0 : ∀ w ∈ lw_tbl, w.before #[Value.ref b] s = true) (hts : ∀ w ∈ wsL_law, w.before #[Value.ref b] s = true) (hX : va_X b L xs s s.heap) (hbl : b < s.heap.size) (hlocks : meth.locks = false) (hG0 : G = fun _ => 0) (hK : va_K D.1 vwCl (hw_ty D.2.1) s) (hST : hw_ST D.2.2 G s.heap.size s) : ∀ (fu : Nat) (H : Heap) (locs : List Loc) (x mo k n : Nat) (y3 : Int32) (ls : Array Slot), (L : Int) - y3.toInt < fu → 0 ≤ y3.toInt ∧ y3.toInt ≤ L → hw_I D G s H x mo → va_S (hw_AW G [1, 2, 3, 4, 5, 6, 7, 8, 9, 10, 11, 12, 13, 14, 15, 16, 17, 18, 19, 20, 21, 22, 23, 24, 25, 26, 27, 28, 29, 30, 31, 32, 40, 42, 44, 45, 46, 48, 49, 50, 51, 53, 55, 58, 59, 67, 68, 69, 70, 71, 72, 73, 74, 75, 76, 77, 78, 79, 80, 81, 82, 83, 84, 101, 102, 103, 104, 105, 106, 107, 108, 109, 127, 128, 129, 132] s.heap.size) s.heap H locs → lv_has ls 4 [(3, .int y3), (2, .ref mo), (1, .ref x), (0, .ref b)] → k + 20 * fu ≤ 600000 → n + 80 * fu ≤ 7302250 → W p l e room_1 s m #[Value.ref b] below meth c H locs k n (lw_Z below #[Value.ref b] s) (F0 m 18 ls []) := by
  have hH0 : hw_HT D G s.heap := fun a h => absurd (by rw [hG0]) h
  have hbA : ¬ (hw_AW G [1, 2, 3, 4, 5, 6, 7, 8, 9, 10, 11, 12, 13, 14, 15, 16, 17, 18, 19, 20, 21, 22, 23, 24, 25, 26, 27, 28, 29, 30, 31, 32, 40, 42, 44, 45, 46, 48, 49, 50, 51, 53, 55, 58, 59, 67, 68, 69, 70, 71, 72, 73, 74, 75, 76, 77, 78, 79, 80, 81, 82, 83, 84, 101, 102, 103, 104, 105, 106, 107, 108, 109, 127, 128, 129, 132] s.heap.size) b := hw_AWn (k := 0) (by rw [hG0]) (by decide) hbl
  have hLi : (Int32.ofNat L).toInt = (L : Int) := nI_toInt (by omega)
  intro fu
  induction fu with
  | zero =>
    intro H locs x mo k n y3 ls hm hy0 hI hS hl hk hn
    exfalso
    omega
  | succ fu ih =>
    intro H locs x mo k n y3 ls hm hy0 hI hS hl hk hn
    refine lv_iload_n hx hb dL_law_18 rfl (lv_at hl 0 rfl) ?_
    refine lv_aload_n hx hb dL_law_19 rfl (lv_at hl 3 rfl) ?_
    refine va_slen hx hb hX hbl hbA hS dL_law_20 ?_
    refine lv_bipush (v := 6) hx hb dL_law_21 (by decide) ?_
    refine lv_isub hx hb dL_law_23 ?_
    refine lv_topi (fun x1 e2 => ?_)
    have t3 : x1.toInt = (Int32.ofNat L).toInt - 6 := by rw [e2]; exact hw_sub rfl rfl (by omega) (by omega)
    refine lv_icmp_gt (tgt := 1193) hx hb dL_law_24 (by decide) (fun c4 => ?_) (fun c4 => ?_)
    · have b5 : x1.toInt < y3.toInt := hw_ilt c4
      refine lv_iconst (v := 1) hx hb dL_law_1193 (by decide) ?_
      have hfg := hw_hfg hG0 (by decide) hS.2.2
      refine va_forget hfg ?_
      refine W.widen (k := 600000) (n := 7302250) (by omega) (by omega) ?_
      exact lw_ret hx hb hr hlocks dL_law_1194
    · have b6 : y3.toInt ≤ x1.toInt := hw_inlt c4
      have hk9 : ∀ (H1 : Heap) (locs1 : List Loc) (ls1 : Array Slot), hw_I D G s H1 x mo → va_S (hw_AW G [1, 2, 3, 4, 5, 6, 7, 8, 9, 10, 11, 12, 13, 14, 15, 16, 17, 18, 19, 20, 21, 22, 23, 24, 25, 26, 27, 28, 29, 30, 31, 32, 40, 42, 44, 45, 46, 48, 49, 50, 51, 53, 55, 58, 59, 67, 68, 69, 70, 71, 72, 73, 74, 75, 76, 77, 78, 79, 80, 81, 82, 83, 84, 101, 102, 103, 104, 105, 106, 107, 108, 109, 127, 128, 129, 132] s.heap.size) s.heap H1 locs1 → lv_has ls1 4 [(3, .int y3), (2, .ref mo), (1, .ref x), (0, .ref b)] → W p l e room_1 s m #[Value.ref b] below meth c H1 locs1 (k + 20) (n + 80) (lw_Z below #[Value.ref b] s) (F0 m 1187 ls1 []) := by
        intro H1 locs1 ls hI hS hl
        obtain ⟨x7, e8⟩ : ∃ y : Int32, y = y3 + 6 := ⟨_, rfl⟩
        refine lv_iinc (v := x7) (lv' := [(3, .int x7), (2, .ref mo), (1, .ref x), (0, .ref b)]) hx hb dL_law_1187 hl (k := 0) rfl (by rw [e8]; rfl) (by decide) rfl (fun ls hl => ?_)
        have t9 : x7.toInt = y3.toInt + 6 := by rw [e8]; exact hw_add rfl rfl (by omega) (by omega)
        refine lv_goto (tgt := 18) hx hb dL_law_1190 (by decide) ?_
        exact ih _ _ _ _ _ _ x7 _ (by omega) (by omega) hI hS (lv_sub hl [0, 1, 2, 3] rfl) (by omega) (by omega)
      refine lv_aload_n hx hb dL_law_27 rfl (lv_at hl 3 rfl) ?_
      refine lv_iload_n hx hb dL_law_28 rfl (lv_at hl 0 rfl) ?_
      refine va_sld hx hb hX hbl hbA hS (hw_in (by omega) (by omega)) dL_law_29 ?_
      refine lv_bipush (v := 63) hx hb dL_law_30 (by decide) ?_
      refine lv_iand hx hb dL_law_32 ?_
      refine lv_topi (fun x10 e11 => ?_)
      have t12 : 0 ≤ x10.toInt ∧ x10.toInt ≤ 63 := by rw [e11]; exact hw_and (by first | decide | omega)
      by_cases w13 : x10.toInt < 0 ∨ 33 < x10.toInt
      · refine lv_tableOut (tgt := 1187) hx hb dL_law_33 w13 (by decide) ?_
        refine W.widen (k := k + 20) (n := n + 80) (by omega) (by omega) ?_
        exact hk9 _ _ _ hI hS hl
      · rcases (show x10.toInt = 0 ∨ x10.toInt = 1 ∨ x10.toInt = 2 ∨ x10.toInt = 3 ∨ x10.toInt = 4 ∨ x10.toInt = 5 ∨ x10.toInt = 6 ∨ x10.toInt = 7 ∨ x10.toInt = 8 ∨ x10.toInt = 9 ∨ x10.toInt = 10 ∨ x10.toInt = 11 ∨ x10.toInt = 12 ∨ x10.toInt = 13 ∨ x10.toInt = 14 ∨ x10.toInt = 15 ∨ x10.toInt = 16 ∨ x10.toInt = 17 ∨ x10.toInt = 18 ∨ x10.toInt = 19 ∨ x10.toInt = 20 ∨ x10.toInt = 21 ∨ x10.toInt = 22 ∨ x10.toInt = 23 ∨ x10.toInt = 24 ∨ x10.toInt = 25 ∨ x10.toInt = 26 ∨ x10.toInt = 27 ∨ x10.toInt = 28 ∨ x10.toInt = 29 ∨ x10.toInt = 30 ∨ x10.toInt = 31 ∨ x10.toInt = 32 ∨ x10.toInt = 33 by omega) with w13 | w13 | w13 | w13 | w13 | w13 | w13 | w13 | w13 | w13 | w13 | w13 | w13 | w13 | w13 | w13 | w13 | w13 | w13 | w13 | w13 | w13 | w13 | w13 | w13 | w13 | w13 | w13 | w13 | w13 | w13 | w13 | w13 | w13
        · refine lv_tableIn (tgt := 184) (off := 151) hx hb dL_law_33 (by omega) (by omega) (by rw [w13]; rfl) (by decide) ?_
          exact hw_case184 l hL ⟨by omega, by omega⟩ (by omega) (by omega) (by omega) hx hb hr hml hown hts0 hts hX hbl hlocks hG0 hK hST hI hS hl hk9
        · refine lv_tableIn (tgt := 207) (off := 174) hx hb dL_law_33 (by omega) (by omega) (by rw [w13]; rfl) (by decide) ?_
          exact hw_case207 l hL ⟨by omega, by omega⟩ (by omega) (by omega) (by omega) hx hb hr hml hown hts0 hts hX hbl hlocks hG0 hK hST hI hS hl hk9
        · refine lv_tableIn (tgt := 220) (off := 187) hx hb dL_law_33 (by omega) (by omega) (by rw [w13]; rfl) (by decide) ?_
          exact hw_case220 l hL ⟨by omega, by omega⟩ (by omega) (by omega) (by omega) hx hb hr hml hown hts0 hts hX hbl hlocks hG0 hK hST hI hS hl hk9
        · refine lv_tableIn (tgt := 233) (off := 200) hx hb dL_law_33 (by omega) (by omega) (by rw [w13]; rfl) (by decide) ?_
          exact hw_case233 l hL ⟨by omega, by omega⟩ (by omega) (by omega) (by omega) hx hb hr hml hown hts0 hts hX hbl hlocks hG0 hK hST hI hS hl hk9
        · refine lv_tableIn (tgt := 246) (off := 213) hx hb dL_law_33 (by omega) (by omega) (by rw [w13]; rfl) (by decide) ?_
          exact hw_case246 l hL ⟨by omega, by omega⟩ (by omega) (by omega) (by omega) hx hb hr hml hown hts0 hts hX hbl hlocks hG0 hK hST hI hS hl hk9
        · refine lv_tableIn (tgt := 279) (off := 246) hx hb dL_law_33 (by omega) (by omega) (by rw [w13]; rfl) (by decide) ?_
          exact hw_case279 l hL ⟨by omega, by omega⟩ (by omega) (by omega) (by omega) hx hb hr hml hown hts0 hts hX hbl hlocks hG0 hK hST hI hS hl hk9
        · refine lv_tableIn (tgt := 312) (off := 279) hx hb dL_law_33 (by omega) (by omega) (by rw [w13]; rfl) (by decide) ?_
          exact hw_case312 l hL ⟨by omega, by omega⟩ (by omega) (by omega) (by omega) hx hb hr hml hown hts0 hts hX hbl hlocks hG0 hK hST hI hS hl hk9
        · refine lv_tableIn (tgt := 345) (off := 312) hx hb dL_law_33 (by omega) (by omega) (by rw [w13]; rfl) (by decide) ?_
          exact hw_case345 l hL ⟨by omega, by omega⟩ (by omega) (by omega) (by omega) hx hb hr hml hown hts0 hts hX hbl hlocks hG0 hK hST hI hS hl hk9
        · refine lv_tableIn (tgt := 388) (off := 355) hx hb dL_law_33 (by omega) (by omega) (by rw [w13]; rfl) (by decide) ?_
          exact hw_case388 l hL ⟨by omega, by omega⟩ (by omega) (by omega) (by omega) hx hb hr hml hown hts0 hts hX hbl hlocks hG0 hK hST hI hS hl hk9
        · refine lv_tableIn (tgt := 421) (off := 388) hx hb dL_law_33 (by omega) (by omega) (by rw [w13]; rfl) (by decide) ?_
          exact hw_case421 l hL ⟨by omega, by omega⟩ (by omega) (by omega) (by omega) hx hb hr hml hown hts0 hts hX hbl hlocks hG0 hK hST hI hS hl hk9
        · refine lv_tableIn (tgt := 464) (off := 431) hx hb dL_law_33 (by omega) (by omega) (by rw [w13]; rfl) (by decide) ?_
          exact hw_case464 l hL ⟨by omega, by omega⟩ (by omega) (by omega) (by omega) hx hb hr hml hown hts0 hts hX hbl hlocks hG0 hK hST hI hS hl hk9
        · refine lv_tableIn (tgt := 487) (off := 454) hx hb dL_law_33 (by omega) (by omega) (by rw [w13]; rfl) (by decide) ?_
          exact hw_case487 l hL ⟨by omega, by omega⟩ (by omega) (by omega) (by omega) hx hb hr hml hown hts0 hts hX hbl hlocks hG0 hK hST hI hS hl hk9
        · refine lv_tableIn (tgt := 510) (off := 477) hx hb dL_law_33 (by omega) (by omega) (by rw [w13]; rfl) (by decide) ?_
          exact hw_case510 l hL ⟨by omega, by omega⟩ (by omega) (by omega) (by omega) hx hb hr hml hown hts0 hts hX hbl hlocks hG0 hK hST hI hS hl hk9
        · refine lv_tableIn (tgt := 523) (off := 490) hx hb dL_law_33 (by omega) (by omega) (by rw [w13]; rfl) (by decide) ?_
          exact hw_case523 l hL ⟨by omega, by omega⟩ (by omega) (by omega) (by omega) hx hb hr hml hown hts0 hts hX hbl hlocks hG0 hK hST hI hS hl hk9
        · refine lv_tableIn (tgt := 536) (off := 503) hx hb dL_law_33 (by omega) (by omega) (by rw [w13]; rfl) (by decide) ?_
          exact hw_case536 l hL ⟨by omega, by omega⟩ (by omega) (by omega) (by omega) hx hb hr hml hown hts0 hts hX hbl hlocks hG0 hK hST hI hS hl hk9
        · refine lv_tableIn (tgt := 559) (off := 526) hx hb dL_law_33 (by omega) (by omega) (by rw [w13]; rfl) (by decide) ?_
          exact hw_case559 l hL ⟨by omega, by omega⟩ (by omega) (by omega) (by omega) hx hb hr hml hown hts0 hts hX hbl hlocks hG0 hK hST hI hS hl hk9
        · refine lv_tableIn (tgt := 582) (off := 549) hx hb dL_law_33 (by omega) (by omega) (by rw [w13]; rfl) (by decide) ?_
          exact hw_case582 l hL ⟨by omega, by omega⟩ (by omega) (by omega) (by omega) hx hb hr hml hown hts0 hts hX hbl hlocks hG0 hK hST hI hS hl hk9
        · refine lv_tableIn (tgt := 605) (off := 572) hx hb dL_law_33 (by omega) (by omega) (by rw [w13]; rfl) (by decide) ?_
          exact hw_case605 l hL ⟨by omega, by omega⟩ (by omega) (by omega) (by omega) hx hb hr hml hown hts0 hts hX hbl hlocks hG0 hK hST hI hS hl hk9
        · refine lv_tableIn (tgt := 628) (off := 595) hx hb dL_law_33 (by omega) (by omega) (by rw [w13]; rfl) (by decide) ?_
          exact hw_case628 l hL ⟨by omega, by omega⟩ (by omega) (by omega) (by omega) hx hb hr hml hown hts0 hts hX hbl hlocks hG0 hK hST hI hS hl hk9
        · refine lv_tableIn (tgt := 651) (off := 618) hx hb dL_law_33 (by omega) (by omega) (by rw [w13]; rfl) (by decide) ?_
          exact hw_case651 l hL ⟨by omega, by omega⟩ (by omega) (by omega) (by omega) hx hb hr hml hown hts0 hts hX hbl hlocks hG0 hK hST hI hS hl hk9
        · refine lv_tableIn (tgt := 674) (off := 641) hx hb dL_law_33 (by omega) (by omega) (by rw [w13]; rfl) (by decide) ?_
          exact hw_case674 l hL ⟨by omega, by omega⟩ (by omega) (by omega) (by omega) hx hb hr hml hown hts0 hts hX hbl hlocks hG0 hK hST hI hS hl hk9
        · refine lv_tableIn (tgt := 697) (off := 664) hx hb dL_law_33 (by omega) (by omega) (by rw [w13]; rfl) (by decide) ?_
          exact hw_case697 l hL ⟨by omega, by omega⟩ (by omega) (by omega) (by omega) hx hb hr hml hown hts0 hts hX hbl hlocks hG0 hK hST hI hS hl hk9
        · refine lv_tableIn (tgt := 730) (off := 697) hx hb dL_law_33 (by omega) (by omega) (by rw [w13]; rfl) (by decide) ?_
          exact hw_case730 l hL ⟨by omega, by omega⟩ (by omega) (by omega) (by omega) hx hb hr hml hown hts0 hts hX hbl hlocks hG0 hK hST hI hS hl hk9
        · refine lv_tableIn (tgt := 743) (off := 710) hx hb dL_law_33 (by omega) (by omega) (by rw [w13]; rfl) (by decide) ?_
          exact hw_case743 l hL ⟨by omega, by omega⟩ (by omega) (by omega) (by omega) hx hb hr hml hown hts0 hts hX hbl hlocks hG0 hK hST hI hS hl hk9
        · refine lv_tableIn (tgt := 766) (off := 733) hx hb dL_law_33 (by omega) (by omega) (by rw [w13]; rfl) (by decide) ?_
          exact hw_case766 l hL ⟨by omega, by omega⟩ (by omega) (by omega) (by omega) hx hb hr hml hown hts0 hts hX hbl hlocks hG0 hK hST hI hS hl hk9
        · refine lv_tableIn (tgt := 789) (off := 756) hx hb dL_law_33 (by omega) (by omega) (by rw [w13]; rfl) (by decide) ?_
          exact hw_case789 l hL ⟨by omega, by omega⟩ (by omega) (by omega) (by omega) hx hb hr hml hown hts0 hts hX hbl hlocks hG0 hK hST hI hS hl hk9
        · refine lv_tableIn (tgt := 842) (off := 809) hx hb dL_law_33 (by omega) (by omega) (by rw [w13]; rfl) (by decide) ?_
          exact hw_case842 l hL ⟨by omega, by omega⟩ (by omega) (by omega) (by omega) hx hb hr hml hown hts0 hts hX hbl hlocks hG0 hK hST hI hS hl hk9
        · refine lv_tableIn (tgt := 885) (off := 852) hx hb dL_law_33 (by omega) (by omega) (by rw [w13]; rfl) (by decide) ?_
          exact hw_case885 l hL ⟨by omega, by omega⟩ (by omega) (by omega) (by omega) hx hb hr hml hown hts0 hts hX hbl hlocks hG0 hK hST hI hS hl hk9
        · refine lv_tableIn (tgt := 968) (off := 935) hx hb dL_law_33 (by omega) (by omega) (by rw [w13]; rfl) (by decide) ?_
          exact hw_case968 l hL ⟨by omega, by omega⟩ (by omega) (by omega) (by omega) hx hb hr hml hown hts0 hts hX hbl hlocks hG0 hK hST hI hS hl hk9
        · refine lv_tableIn (tgt := 1001) (off := 968) hx hb dL_law_33 (by omega) (by omega) (by rw [w13]; rfl) (by decide) ?_
          exact hw_case1001 l hL ⟨by omega, by omega⟩ (by omega) (by omega) (by omega) hx hb hr hml hown hts0 hts hX hbl hlocks hG0 hK hST hI hS hl hk9
        · refine lv_tableIn (tgt := 1064) (off := 1031) hx hb dL_law_33 (by omega) (by omega) (by rw [w13]; rfl) (by decide) ?_
          exact hw_case1064 l hL ⟨by omega, by omega⟩ (by omega) (by omega) (by omega) hx hb hr hml hown hts0 hts hX hbl hlocks hG0 hK hST hI hS hl hk9
        · refine lv_tableIn (tgt := 1087) (off := 1054) hx hb dL_law_33 (by omega) (by omega) (by rw [w13]; rfl) (by decide) ?_
          exact hw_case1087 l hL ⟨by omega, by omega⟩ (by omega) (by omega) (by omega) hx hb hr hml hown hts0 hts hX hbl hlocks hG0 hK hST hI hS hl hk9
        · refine lv_tableIn (tgt := 1121) (off := 1088) hx hb dL_law_33 (by omega) (by omega) (by rw [w13]; rfl) (by decide) ?_
          exact hw_case1121 l hL ⟨by omega, by omega⟩ (by omega) (by omega) (by omega) hx hb hr hml hown hts0 hts hX hbl hlocks hG0 hK hST hI hS hl hk9
        · refine lv_tableIn (tgt := 1164) (off := 1131) hx hb dL_law_33 (by omega) (by omega) (by rw [w13]; rfl) (by decide) ?_
          exact hw_case1164 l hL ⟨by omega, by omega⟩ (by omega) (by omega) (by omega) hx hb hr hml hown hts0 hts hX hbl hlocks hG0 hK hST hI hS hl hk9

set_option maxHeartbeats 400000000 in
set_option maxRecDepth 100000 in
theorem whole_start {p : Program} {e : Env} {s : State} {m : MethodId} {below : List Frame} {meth : Method} {c : Code} (l : Launch) {b L : Nat} {xs : Nat → Int32} (hL : L ≤ 384) (C0 : lw_At p s m meth c b L xs) : W p l e room_1 s m #[Value.ref b] below meth c s.heap [] 0 0 (lw_Z below #[Value.ref b] s) (entryFrame m ([Value.ref b] : List Value).toArray 4) := by
  obtain ⟨hx, hb, hr, hml, hown, hts0, hX, hbl, hlocks, hgv⟩ := C0
  have hts : ∀ w ∈ wsL_law, w.before #[Value.ref b] s = true := fun w h => hts0 w (wsL_law_in w h)
  obtain ⟨dS, hST0⟩ := hw_start hgv hts0
  obtain ⟨DK, dA, hK0⟩ := hw_kstart hts0 hST0.ex
  obtain ⟨D, hD⟩ : ∃ D : hw_D, D = (DK, dA, dS) := ⟨_, rfl⟩
  have hK : va_K D.1 vwCl (hw_ty D.2.1) s := by rw [hD]; exact hK0
  obtain ⟨G, hG0⟩ : ∃ G : Nat → Nat, G = fun _ => 0 := ⟨_, rfl⟩
  have hST : hw_ST D.2.2 G s.heap.size s := by rw [hD, hG0]; exact hST0
  have hH : hw_HT D G s.heap := fun a h => absurd (by rw [hG0]) h
  have hS : va_S (hw_AW G [1, 2, 3, 4, 5, 6, 7, 8, 9, 10, 11, 12, 13, 14, 15, 16, 17, 18, 19, 20, 21, 22, 23, 24, 25, 26, 27, 28, 29, 30, 31, 32, 40, 42, 44, 45, 46, 48, 49, 50, 51, 53, 55, 58, 59, 67, 68, 69, 70, 71, 72, 73, 74, 75, 76, 77, 78, 79, 80, 81, 82, 83, 84, 101, 102, 103, 104, 105, 106, 107, 108, 109, 127, 128, 129, 132] s.heap.size) s.heap s.heap [] := va_S.rf
  have hbA : ¬ (hw_AW G [1, 2, 3, 4, 5, 6, 7, 8, 9, 10, 11, 12, 13, 14, 15, 16, 17, 18, 19, 20, 21, 22, 23, 24, 25, 26, 27, 28, 29, 30, 31, 32, 40, 42, 44, 45, 46, 48, 49, 50, 51, 53, 55, 58, 59, 67, 68, 69, 70, 71, 72, 73, 74, 75, 76, 77, 78, 79, 80, 81, 82, 83, 84, 101, 102, 103, 104, 105, 106, 107, 108, 109, 127, 128, 129, 132] s.heap.size) b := hw_AWn (k := 0) (by rw [hG0]) (by decide) hbl
  have hLi : (Int32.ofNat L).toInt = (L : Int) := nI_toInt (by omega)
  have hl := lv_entry ([.ref b]) (n := 4) (Nat.le_of_ble_eq_true rfl)
  rw [lg_entry_eq]
  generalize (lg_sl ([.ref b]) ++ List.replicate (4 - (lg_sl ([.ref b])).length) Slot.unset).toArray = ls at hl ⊢
  have hl : lv_has ls 4 [(0, .ref b)] := hl
  have hS0 := hS
  refine hw_new hx hb 101 (ci := 10) (C := RX11) (T := TX11) (N := 14) hts0 hw_layX11 tyX11 tyX11_ok hown (hts0 (.classLink RL 7 RX11) (by decide +kernel)) (hts0 (.instantiable RX11 14) (by decide +kernel)) (hts0 (.initialized RX11) (by decide +kernel)) hK hH hS rfl [.null, .null, .null, .null, .int 0, .int 0, .null, .null, .int 0, .null, .null, .int 0, .null, .null] (fun j hj => by rcases (show j = 0 ∨ j = 1 ∨ j = 2 ∨ j = 3 ∨ j = 4 ∨ j = 5 ∨ j = 6 ∨ j = 7 ∨ j = 8 ∨ j = 9 ∨ j = 10 ∨ j = 11 ∨ j = 12 ∨ j = 13 by omega) with rfl | rfl | rfl | rfl | rfl | rfl | rfl | rfl | rfl | rfl | rfl | rfl | rfl | rfl <;> rfl) (show hw_ok D.2.1 G 101 _ from ⟨_, rfl⟩) (Nat.le_of_ble_eq_true rfl) (Nat.le_of_ble_eq_true rfl) dL_law_0 (fun q1 G2 H hH m3 m4 k5 l6 e7 v8 oq hz hS => ?_)
  have w9 : s.heap.size ≤ q1 := by have := hS0.1; omega
  have g10 : ∀ x, x < s.heap.size → G2 x = G x := fun x h9 => (l6 x (Nat.lt_of_lt_of_le h9 hS0.1)).trans ((fun _ _ => rfl) x h9)
  refine lv_dup hx hb dL_law_3 rfl ?_
  have hHo := hH
  have hS0 := hS
  refine hw_cM (va_runI (As := []) (rest := [.ref q1]) ⟨hx, hb, hml, hown, hts⟩ (k3_X11_init l D G2 q1 _ k5) (cwI 0 hts gL_law_X11_init rfl rfl rfl (hts0 (.initialized RX11) (by decide +kernel)) (hts0 (.methodLink RL 9 yX11_init) (by decide +kernel)) (hts0 (.instanceMethod yX11_init) (by decide +kernel)) rfl (by decide +kernel) ⟨Nat.le_of_ble_eq_true rfl, Nat.le_of_ble_eq_true rfl⟩) (hw_pS hH hK hST hS (by decide) (hw_hG g10) v8) rfl rfl hl.1 rfl (lv_room (Nat.le_of_ble_eq_true rfl)) dL_law_4 ⟨Nat.le_of_ble_eq_true rfl, Nat.le_of_ble_eq_true rfl⟩) hS (hw_AWsub (by decide) g10 hS.1) (fun v H locs hp hz hk hS => ?_)
  obtain ⟨G11, r14, r15, r16, r17, fq, th, rfl, hH, i12, k13, R18, v19, x20, x21, x22, x23, x24, x25, x26, x27⟩ := hp
  have m28 : ∀ a, G2 a ≠ 0 → G2 a < 100 → G11 a = G2 a := fun a h0 h1 => i12 a (hHo.lt h0) (fun e => by rw [e, k5] at h1; exact absurd h1 (by decide))
  have g29 : ∀ x, x < s.heap.size → G11 x = G x := fun x h9 => (i12 x (Nat.lt_of_lt_of_le h9 hS0.1) (fun e => by have := w9; omega)).trans (g10 x h9)
  have hRK := x27
  have q30 := hRK.q
  refine lv_astore_n (lv' := [(1, .ref q1), (0, .ref b)]) hx hb dL_law_7 rfl hl (by decide) rfl (fun ls hl => ?_)
  have hS0 := hS
  refine hw_new hx hb 109 (ci := 11) (C := RX12) (T := TX12) (N := 45) hts0 hw_layX12 tyX12 tyX12_ok hown (hts0 (.classLink RL 10 RX12) (by decide +kernel)) (hts0 (.instantiable RX12 45) (by decide +kernel)) (hts0 (.initialized RX12) (by decide +kernel)) hK hH hS rfl [.null, .int 0, .null, .int 0, .null, .null, .null, .int 0, .null, .null, .null, .null, .int 0, .null, .int 0, .null, .int 0, .int 0, .null, .null, .int 0, .int 0, .int 0, .int 0, .int 0, .int 0, .int 0, .null, .null, .null, .null, .null, .null, .null, .null, .null, .null, .null, .null, .null, .null, .null, .null, .null, .null] (fun j hj => by rcases (show j = 0 ∨ j = 1 ∨ j = 2 ∨ j = 3 ∨ j = 4 ∨ j = 5 ∨ j = 6 ∨ j = 7 ∨ j = 8 ∨ j = 9 ∨ j = 10 ∨ j = 11 ∨ j = 12 ∨ j = 13 ∨ j = 14 ∨ j = 15 ∨ j = 16 ∨ j = 17 ∨ j = 18 ∨ j = 19 ∨ j = 20 ∨ j = 21 ∨ j = 22 ∨ j = 23 ∨ j = 24 ∨ j = 25 ∨ j = 26 ∨ j = 27 ∨ j = 28 ∨ j = 29 ∨ j = 30 ∨ j = 31 ∨ j = 32 ∨ j = 33 ∨ j = 34 ∨ j = 35 ∨ j = 36 ∨ j = 37 ∨ j = 38 ∨ j = 39 ∨ j = 40 ∨ j = 41 ∨ j = 42 ∨ j = 43 ∨ j = 44 by omega) with rfl | rfl | rfl | rfl | rfl | rfl | rfl | rfl | rfl | rfl | rfl | rfl | rfl | rfl | rfl | rfl | rfl | rfl | rfl | rfl | rfl | rfl | rfl | rfl | rfl | rfl | rfl | rfl | rfl | rfl | rfl | rfl | rfl | rfl | rfl | rfl | rfl | rfl | rfl | rfl | rfl | rfl | rfl | rfl | rfl <;> rfl) (show hw_ok D.2.1 G11 109 _ from ⟨_, rfl⟩) (Nat.le_of_ble_eq_true rfl) (Nat.le_of_ble_eq_true rfl) dL_law_8 (fun q31 G32 H hH m33 m34 k35 l36 e37 v38 oq hz hS => ?_)
  have w39 : s.heap.size ≤ q31 := by have := hS0.1; omega
  have g40 : ∀ x, x < s.heap.size → G32 x = G x := fun x h9 => (l36 x (Nat.lt_of_lt_of_le h9 hS0.1)).trans (g29 x h9)
  have v19 := va_at.kept v19 (oq _ (hw_lt v19))
  have x21 := va_at.kept x21 (oq _ (hw_lt x21))
  have x23 := va_at.kept x23 (oq _ (hw_lt x23))
  have x25 := va_at.kept x25 (oq _ (hw_lt x25))
  have x26 := va_at.kept x26 (oq _ (hw_lt x26))
  have hRK := hw_RK3.grow hRK oq m33
  have k41 := hw_kg m33 k13 (by decide) (by decide)
  have R42 := hw_RX_mono m33 R18
  have k43 := hw_kg m33 (hw_RX_0 R18) (by decide) (by decide)
  have R44 := hw_RC_mono m33 x20
  have k45 := hw_kg m33 (hw_RX_1 R18) (by decide) (by decide)
  have R46 := hw_RT_mono m33 x22
  have k47 := hw_kg m33 (hw_RX_2 R18) (by decide) (by decide)
  have R48 := hw_RS_mono m33 x24
  have k49 := hw_kg m33 (hw_RX_13 R18) (by decide) (by decide)
  have q50 := hw_qn m33 q30 (by decide) (by decide)
  refine lv_dup hx hb dL_law_11 rfl ?_
  have hHo := hH
  have hS0 := hS
  refine hw_cM (va_runI (As := []) (rest := [.ref q31]) ⟨hx, hb, hml, hown, hts⟩ (k_X12_init l D G32 q31 _ k35) (cwI 0 hts gL_law_X12_init rfl rfl rfl (hts0 (.initialized RX12) (by decide +kernel)) (hts0 (.methodLink RL 12 yX12_init) (by decide +kernel)) (hts0 (.instanceMethod yX12_init) (by decide +kernel)) rfl (by decide +kernel) ⟨Nat.le_of_ble_eq_true rfl, Nat.le_of_ble_eq_true rfl⟩) (hw_pS hH hK hST hS (by decide) (hw_hG g40) v38) rfl rfl hl.1 rfl (lv_room (Nat.le_of_ble_eq_true rfl)) dL_law_12 ⟨Nat.le_of_ble_eq_true rfl, Nat.le_of_ble_eq_true rfl⟩) hS (hw_AWsub (by decide) g40 hS.1) (fun v H locs hp hz hk hS => ?_)
  obtain ⟨G51, r54, fro, fik, fla, fsz, rfl, hH, i52, k53, R55, v56, x57, x58, x59, x60, x61, x62, x63⟩ := hp
  have v19 := va_at.kept v19 (hk _ (hw_lt v19) (hw_AWn k41 (by decide) (hw_lt v19)))
  have x21 := va_at.kept x21 (hk _ (hw_lt x21) (hw_AWn k43 (by decide) (hw_lt x21)))
  have x23 := va_at.kept x23 (hk _ (hw_lt x23) (hw_AWn k45 (by decide) (hw_lt x23)))
  have x25 := va_at.kept x25 (hk _ (hw_lt x25) (hw_AWn k47 (by decide) (hw_lt x25)))
  have x26 := va_at.kept x26 (hk _ (hw_lt x26) (hw_AWn k49 (by decide) (hw_lt x26)))
  have m64 : ∀ a, G32 a ≠ 0 → G32 a < 100 → G51 a = G32 a := fun a h0 h1 => i52 a (hHo.lt h0) (fun e => by rw [e, k35] at h1; exact absurd h1 (by decide))
  have g65 : ∀ x, x < s.heap.size → G51 x = G x := fun x h9 => (i52 x (Nat.lt_of_lt_of_le h9 hS0.1) (fun e => by have := w39; omega)).trans (g40 x h9)
  have hRK := hw_RK3.grow (hRK.kept (fun q9 h9 l9 => hk q9 l9 (by rcases h9 with h9 | h9 <;> exact hw_AWn h9 (by decide) l9))) (fun _ _ => rfl) m64
  have k66 := hw_kg m64 k41 (by decide) (by decide)
  have R67 := hw_RX_mono m64 R42
  have k68 := hw_kg m64 k43 (by decide) (by decide)
  have R69 := hw_RC_mono m64 R44
  have k70 := hw_kg m64 k45 (by decide) (by decide)
  have R71 := hw_RT_mono m64 R46
  have k72 := hw_kg m64 k47 (by decide) (by decide)
  have R73 := hw_RS_mono m64 R48
  have k74 := hw_kg m64 k49 (by decide) (by decide)
  have q75 := hw_qn m64 q50 (by decide) (by decide)
  have q76 : ∀ j, j < 4 → -1 ≤ (fsz j).toInt ∧ (fsz j).toInt ≤ 24 := fun j hj => by rw [x63 j hj]; decide
  have hro := x58
  have hik := x60
  have hfs := x63
  refine lv_astore_n (lv' := [(2, .ref q31), (1, .ref q1), (0, .ref b)]) hx hb dL_law_15 rfl hl (by decide) rfl (fun ls hl => ?_)
  refine lv_iconst (v := 0) hx hb dL_law_16 (by decide) ?_
  refine lv_istore_n (lv' := [(3, .int 0), (2, .ref q31), (1, .ref q1), (0, .ref b)]) hx hb dL_law_17 rfl hl (by decide) rfl (fun ls hl => ?_)
  refine W.widen (k := 200) (n := 8000) (by decide) (by decide) ?_
  obtain ⟨fth, vth9⟩ := hH.a83 (hw_RM_43 R55)
  have hy9 : (0 : Int32).toInt = 0 := rfl
  exact hw_loop l hL hx hb hr hml hown hts0 hts hX hbl hlocks hG0 hK hST (L + 1) _ _ q1 q31 200 8000 0 _ (by omega) (by omega) ⟨G51, r14, r54, 0, 0, 0, 0, 0, 0, 0, 0, 60, 0, 0, 0, 0, 0, 0, 0, 0, 0, fq, (fun _ => -1), (fun _ => 0), fla, fsz, th, (fun _ _ => 0), fth, hH, g65, w9, w39, k66, k53, R67, v19, ⟨by decide, by decide⟩, x26, hRK, R55, v56, ⟨by decide, by decide⟩, ⟨by decide, by decide⟩, ⟨by decide, by decide⟩, ⟨by decide, by decide⟩, ⟨by decide, by decide⟩, ⟨by decide, by decide⟩, ⟨by decide, by decide⟩, ⟨by decide, by decide⟩, ⟨by decide, by decide⟩, ⟨by decide, by decide⟩, ⟨by decide, by decide⟩, ⟨by decide, by decide⟩, x61, x62, q76, hw_rel0 hfs, vth9, hw_relT_0 _ _⟩ hS (lv_sub hl [0, 1, 2, 3] rfl) (by omega) (by omega)
