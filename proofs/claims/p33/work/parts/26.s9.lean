set_option maxHeartbeats 4000000 in
set_option maxRecDepth 100000 in
theorem k3_X7_begin (l : Launch) (D : hw_D) (G : Nat → Nat) (h0 : Nat) (p1 : Int32) (p2 : Int32) (sz : Nat) (ra : Nat → Nat) (la_a sz_a : Int32) (fth : Nat → Int64) (G0 : G h0 = 6) (Ra : hw_RK G ra) : Met l yX7_begin wsX7_begin ({ frames := 0, cells := 0, slots := 0, locals := 0 } : Room) (hw_PC D G [.ref h0, .int p1, .int p2] sz (fun H => va_at D.1 vwCl (h0, .inr (6, hw_LK ra la_a sz_a)) H ∧ va_at D.1 vwCl ((ra 0), .inl (D.2.1 1, 24, .inr (.inl fth))) H)) (hw_QM (fun v H => ∃ (la_a2 : Int32) (sz_a2 : Int32) (fth2 : Nat → Int64), v = none ∧ hw_HT D G H ∧ va_at D.1 vwCl (h0, .inr (6, hw_LK ra la_a2 sz_a2)) H ∧ va_at D.1 vwCl ((ra 0), .inl (D.2.1 1, 24, .inr (.inl fth2))) H ∧ la_a2 = p1 ∧ sz_a2 = p2 ∧ (∀ j, j < 24 → fth2 j = 0)) (hw_AW G [6, 19] sz)) 0 0 (hw_AW G [6, 19] sz) := by
  refine hw_met (cc := cX7_begin) (maxL := 4) (ret := none) (plainFor_of_name (by decide)) rfl (Nat.le_of_ble_eq_true rfl) ?_
  intro p e s m args below meth c QQ ls hsz hx hb hml hr hts hown hlocks hnm hH hK hST hF hQ hl
  subst hsz
  have hS : va_S (hw_AW G [6, 19] s.heap.size) s.heap s.heap [] := va_S.rf
  obtain ⟨va, vth⟩ := hF
  have hl : lv_has ls 4 [(0, .ref h0), (1, .int p1), (2, .int p2)] := hl
  have u_6 : ∀ w ∈ u_ws RX7 TX7 3, w.before args s = true := fun w hw => hts w ((by decide +kernel : ∀ w ∈ u_ws RX7 TX7 3, w ∈ wsX7_begin) w hw)
  have fp_15_6 : hw_FP s args m 15 6 1 false .int := ⟨RX7, "WardWalkers$Rack", RX7, TX7, 3, tyX7, u_6, hown, rfl, by decide, (hts (.fieldLink RX7 15 "WardWalkers$Rack" "lane" "I") (by decide +kernel)), (fun _ h9 => h9), tyX7_ok, nmX7, rfl, (fun h => by cases h), by decide +kernel⟩
  have fp_19_6 : hw_FP s args m 19 6 2 false .int := ⟨RX7, "WardWalkers$Rack", RX7, TX7, 3, tyX7, u_6, hown, rfl, by decide, (hts (.fieldLink RX7 19 "WardWalkers$Rack" "size" "I") (by decide +kernel)), (fun _ h9 => h9), tyX7_ok, nmX7, rfl, (fun h => by cases h), by decide +kernel⟩
  have fg_9_6 : hw_FG s args m 9 6 0 := ⟨RX7, "WardWalkers$Rack", RX7, TX7, 3, u_6, hown, rfl, by decide, (hts (.fieldLink RX7 9 "WardWalkers$Rack" "things" "[J") (by decide +kernel)), (fun _ h9 => h9)⟩
  refine lv_aload_n hx hb dX7_begin_0 rfl (lv_at hl 0 rfl) ?_
  refine lv_iload_n hx hb dX7_begin_1 rfl (lv_at hl 1 rfl) ?_
  refine hw_put (v := .int p1) (fs' := hw_LK ra p1 sz_a) hx hb fp_15_6 hK hH va (Nat.le_of_ble_eq_true rfl) rfl rfl rfl (fun _ => by rw [G0]; exact ⟨ra, p1, sz_a, rfl, Ra⟩) hS (hw_AWi G0 (by decide)) dX7_begin_2 (fun H locs hH va oq hz hS => ?_)
  have vth := va_at.kept vth (oq _ (hw_ne (hw_RK_0 Ra) G0 (by decide)))
  refine lv_aload_n hx hb dX7_begin_5 rfl (lv_at hl 0 rfl) ?_
  refine lv_iload_n hx hb dX7_begin_6 rfl (lv_at hl 2 rfl) ?_
  refine hw_put (v := .int p2) (fs' := hw_LK ra p1 p2) hx hb fp_19_6 hK hH va (Nat.le_of_ble_eq_true rfl) rfl rfl rfl (fun _ => by rw [G0]; exact ⟨ra, p1, p2, rfl, Ra⟩) hS (hw_AWi G0 (by decide)) dX7_begin_7 (fun H locs hH va oq hz hS => ?_)
  have vth := va_at.kept vth (oq _ (hw_ne (hw_RK_0 Ra) G0 (by decide)))
  refine lv_iconst (v := 0) hx hb dX7_begin_10 (by decide) ?_
  refine lv_istore_n (lv' := [(3, .int 0), (0, .ref h0), (1, .int p1), (2, .int p2)]) hx hb dX7_begin_11 rfl hl (by decide) rfl (fun ls hl => ?_)
  have L12 : ∀ (n4 : Nat) (y3_1 : Int32) (f2 : Nat → Int64) (hm : (24 - y3_1.toInt).toNat < n4) (g3 : 0 ≤ y3_1.toInt ∧ y3_1.toInt ≤ 24) (inv12_0 : ∀ j, j < y3_1.toNatClampNeg → f2 j = 0) (H : Heap) (locs : List Loc) (hH : hw_HT D G H) (va : va_at D.1 vwCl (h0, .inr (6, hw_LK ra p1 p2)) H) (vth : va_at D.1 vwCl ((ra 0), .inl (D.2.1 1, 24, .inr (.inl f2))) H) (hS : va_S (hw_AW G [6, 19] s.heap.size) s.heap H locs) (ls : Array Slot) (hl : lv_has ls 4 [(3, .int y3_1), (0, .ref h0), (1, .int p1), (2, .int p2)]), W p l e ({ frames := 0, cells := 0, slots := 0, locals := 0 } : Room) s m args below meth c H locs 0 0 QQ (F0 m 12 ls []) := by
    intro n4
    induction n4 with
    | zero => intro y3_1 f2 hm; exact absurd hm (Nat.not_lt_zero _)
    | succ n4 ih12 =>
      intro y3_1 f2 hm g3 inv12_0 H locs hH va vth hS ls hl
      refine lv_iload_n hx hb dX7_begin_12 rfl (lv_at hl 0 rfl) ?_
      refine lv_bipush (v := 24) hx hb dX7_begin_13 (by decide) ?_
      refine lv_icmp_ge (tgt := 31) hx hb dX7_begin_15 (by decide) (fun c5 => ?_) (fun c5 => ?_)
      · have b6 : 24 ≤ y3_1.toInt := hw_ile c5
        exact hw_vretM hx hb hr hlocks hQ hS (⟨p1, p2, f2, rfl, hH, va, vth, (by rfl), (by rfl), (by have h8 := inv12_0; rw [hw_cl (x := y3_1) (n := 24) (by omega)] at h8; exact h8)⟩) dX7_begin_31
      · have b7 : y3_1.toInt < 24 := hw_inle c5
        refine lv_aload_n hx hb dX7_begin_18 rfl (lv_at hl 1 rfl) ?_
        refine hw_get hx hb fg_9_6 hK va rfl dX7_begin_19 ?_
        refine lv_iload_n hx hb dX7_begin_22 rfl (lv_at hl 0 rfl) ?_
        refine lv_lconst (v := 0) hx hb dX7_begin_23 (by decide) ?_
        refine hw_last hx hb hK hH vth (hw_in (by omega) (by omega)) (fun _ => by rw [(hw_RK_0 Ra)]; exact ⟨_, rfl⟩) hS (hw_AWi (hw_RK_0 Ra) (by decide)) dX7_begin_24 (fun H locs hH vth oq hz hS => ?_)
        have va := va_at.kept va (oq _ (hw_ne G0 (hw_RK_0 Ra) (by decide)))
        obtain ⟨f8, e9⟩ : ∃ z, z = vp_updL f2 y3_1.toNatClampNeg 0 := ⟨_, rfl⟩
        rw [← e9] at vth
        obtain ⟨x10, e11⟩ : ∃ y : Int32, y = y3_1 + 1 := ⟨_, rfl⟩
        refine lv_iinc (v := x10) (lv' := [(3, .int x10), (0, .ref h0), (1, .int p1), (2, .int p2)]) hx hb dX7_begin_25 hl (k := 0) rfl (by rw [e11]; rfl) (by decide) rfl (fun ls hl => ?_)
        have t12 : x10.toInt = y3_1.toInt + 1 := by rw [e11]; exact hw_add rfl rfl (by omega) (by omega)
        refine lv_goto (tgt := 12) hx hb dX7_begin_28 (by decide) ?_
        exact ih12 x10 f8 (by first | omega | omega) ⟨by first | decide | omega, by first | decide | omega⟩ (by rw [e9, hw_cls (x := y3_1) (y := x10) (by omega) (by omega)]; exact hw_lz_up inv12_0 rfl) _ _ hH va vth hS _ (lv_sub hl [0, 1, 2, 3] rfl)
  exact L12 _ 0 fth (Nat.lt_succ_self _) ⟨by first | decide | omega, by first | decide | omega⟩ (by intro j hj; exact absurd hj (Nat.not_lt_zero _)) _ _ hH va vth hS _ (lv_sub hl [0, 1, 2, 3] rfl)

set_option maxHeartbeats 4000000 in
set_option maxRecDepth 100000 in
theorem k3_X7_thingAt (l : Launch) (D : hw_D) (G : Nat → Nat) (h0 : Nat) (p1 : Int32) (sz : Nat) (ra : Nat → Nat) (la_a sz_a : Int32) (fth : Nat → Int64) (G0 : G h0 = 6) (Ra : hw_RK G ra) : Met l yX7_thingAt wsX7_thingAt ({ frames := 0, cells := 0, slots := 0, locals := 0 } : Room) (hw_PC D G [.ref h0, .int p1] sz (fun H => va_at D.1 vwCl (h0, .inr (6, hw_LK ra la_a sz_a)) H ∧ va_at D.1 vwCl ((ra 0), .inl (D.2.1 1, 24, .inr (.inl fth))) H)) (hw_QR (fun v => ∃ (r : Int64), v = .long r ∧ (0 ≤ p1.toInt ∧ p1.toInt < sz_a.toInt ∧ p1.toInt < 24 → r = fth p1.toNatClampNeg))) 0 0 (fun _ => False) := by
  refine hw_met (cc := cX7_thingAt) (maxL := 2) (ret := (some .long)) (plainFor_of_name (by decide)) rfl (Nat.le_of_ble_eq_true rfl) ?_
  intro p e s m args below meth c QQ ls hsz hx hb hml hr hts hown hlocks hnm hH hK hST hF hQ hl
  subst hsz
  have hS : va_S (hw_AW G [] s.heap.size) s.heap s.heap [] := va_S.rf
  obtain ⟨va, vth⟩ := hF
  have hl : lv_has ls 2 [(0, .ref h0), (1, .int p1)] := hl
  have u_6 : ∀ w ∈ u_ws RX7 TX7 3, w.before args s = true := fun w hw => hts w ((by decide +kernel : ∀ w ∈ u_ws RX7 TX7 3, w ∈ wsX7_thingAt) w hw)
  have fg_19_6 : hw_FG s args m 19 6 2 := ⟨RX7, "WardWalkers$Rack", RX7, TX7, 3, u_6, hown, rfl, by decide, (hts (.fieldLink RX7 19 "WardWalkers$Rack" "size" "I") (by decide +kernel)), (fun _ h9 => h9)⟩
  have fg_9_6 : hw_FG s args m 9 6 0 := ⟨RX7, "WardWalkers$Rack", RX7, TX7, 3, u_6, hown, rfl, by decide, (hts (.fieldLink RX7 9 "WardWalkers$Rack" "things" "[J") (by decide +kernel)), (fun _ h9 => h9)⟩
  refine lv_iload_n hx hb dX7_thingAt_0 rfl (lv_at hl 1 rfl) ?_
  refine lv_if_lt (tgt := 27) hx hb dX7_thingAt_1 (by decide) (fun c1 => ?_) (fun c1 => ?_)
  · have b2 : p1.toInt < 0 := hw_ilt c1
    refine lv_lconst (v := 0) hx hb dX7_thingAt_27 (by decide) ?_
    exact hw_lretR (v := 0) hx hb hr hlocks hQ (⟨0, rfl, (by intro h9; first | (exfalso; omega) | exact None)⟩) dX7_thingAt_28
  · have b3 : 0 ≤ p1.toInt := hw_inlt c1
    refine lv_iload_n hx hb dX7_thingAt_4 rfl (lv_at hl 1 rfl) ?_
    refine lv_aload_n hx hb dX7_thingAt_5 rfl (lv_at hl 0 rfl) ?_
    refine hw_get hx hb fg_19_6 hK va rfl dX7_thingAt_6 ?_
    refine lv_icmp_ge (tgt := 27) hx hb dX7_thingAt_9 (by decide) (fun c4 => ?_) (fun c4 => ?_)
    · have b5 : sz_a.toInt ≤ p1.toInt := hw_ile c4
      refine lv_lconst (v := 0) hx hb dX7_thingAt_27 (by decide) ?_
      exact hw_lretR (v := 0) hx hb hr hlocks hQ (⟨0, rfl, (by intro h9; first | (exfalso; omega) | exact None)⟩) dX7_thingAt_28
    · have b6 : p1.toInt < sz_a.toInt := hw_inle c4
      refine lv_iload_n hx hb dX7_thingAt_12 rfl (lv_at hl 1 rfl) ?_
      refine lv_bipush (v := 24) hx hb dX7_thingAt_13 (by decide) ?_
      refine lv_icmp_ge (tgt := 27) hx hb dX7_thingAt_15 (by decide) (fun c7 => ?_) (fun c7 => ?_)
      · have b8 : 24 ≤ p1.toInt := hw_ile c7
        refine lv_lconst (v := 0) hx hb dX7_thingAt_27 (by decide) ?_
        exact hw_lretR (v := 0) hx hb hr hlocks hQ (⟨0, rfl, (by intro h9; first | (exfalso; omega) | exact None)⟩) dX7_thingAt_28
      · have b9 : p1.toInt < 24 := hw_inle c7
        refine lv_aload_n hx hb dX7_thingAt_18 rfl (lv_at hl 0 rfl) ?_
        refine hw_get hx hb fg_9_6 hK va rfl dX7_thingAt_19 ?_
        refine lv_iload_n hx hb dX7_thingAt_22 rfl (lv_at hl 1 rfl) ?_
        refine hw_lald hx hb hK vth (hw_in (by omega) (by omega)) dX7_thingAt_23 ?_
        refine lv_topl (fun x10 e11 => ?_)
        refine lv_goto (tgt := 28) hx hb dX7_thingAt_24 (by decide) ?_
        exact hw_lretR (v := x10) hx hb hr hlocks hQ (⟨x10, rfl, (by intro h9; first | (exfalso; omega) | exact e11)⟩) dX7_thingAt_28

set_option maxHeartbeats 4000000 in
set_option maxRecDepth 100000 in
theorem k3_X7_cutDown (l : Launch) (D : hw_D) (G : Nat → Nat) (h0 : Nat) (p1 : Int64) (sz : Nat) (ra : Nat → Nat) (la_a sz_a : Int32) (G0 : G h0 = 6) (Ra : hw_RK G ra) : Met l yX7_cutDown wsX7_cutDown ({ frames := 0, cells := 0, slots := 0, locals := 0 } : Room) (hw_PC D G [.ref h0, .long p1] sz (fun H => va_at D.1 vwCl (h0, .inr (6, hw_LK ra la_a sz_a)) H)) (hw_QR (fun v => ∃ (r : Int64), v = .long r ∧ (la_a.toInt = 2 → r = p1.toInt32.toInt64))) 0 0 (fun _ => False) := by
  refine hw_met (cc := cX7_cutDown) (maxL := 3) (ret := (some .long)) (plainFor_of_name (by decide)) rfl (Nat.le_of_ble_eq_true rfl) ?_
  intro p e s m args below meth c QQ ls hsz hx hb hml hr hts hown hlocks hnm hH hK hST hF hQ hl
  subst hsz
  have hS : va_S (hw_AW G [] s.heap.size) s.heap s.heap [] := va_S.rf
  have va := hF
  have hl : lv_has ls 3 [(0, .ref h0), (1, .long p1)] := hl
  have u_6 : ∀ w ∈ u_ws RX7 TX7 3, w.before args s = true := fun w hw => hts w ((by decide +kernel : ∀ w ∈ u_ws RX7 TX7 3, w ∈ wsX7_cutDown) w hw)
  have fg_15_6 : hw_FG s args m 15 6 1 := ⟨RX7, "WardWalkers$Rack", RX7, TX7, 3, u_6, hown, rfl, by decide, (hts (.fieldLink RX7 15 "WardWalkers$Rack" "lane" "I") (by decide +kernel)), (fun _ h9 => h9)⟩
  refine lv_aload_n hx hb dX7_cutDown_0 rfl (lv_at hl 0 rfl) ?_
  refine hw_get hx hb fg_15_6 hK va rfl dX7_cutDown_1 ?_
  by_cases w1 : la_a.toInt < 0 ∨ 4 < la_a.toInt
  · refine lv_tableOut (tgt := 60) hx hb dX7_cutDown_4 w1 (by decide) ?_
    refine lv_lconst (v := 0) hx hb dX7_cutDown_60 (by decide) ?_
    exact hw_lretR (v := 0) hx hb hr hlocks hQ (⟨0, rfl, (by intro h9; first | (exfalso; omega) | (rw [None, hli]))⟩) dX7_cutDown_61
  · rcases (show la_a.toInt = 0 ∨ la_a.toInt = 1 ∨ la_a.toInt = 2 ∨ la_a.toInt = 3 ∨ la_a.toInt = 4 by omega) with w1 | w1 | w1 | w1 | w1
    · refine lv_tableIn (tgt := 40) (off := 36) hx hb dX7_cutDown_4 (by omega) (by omega) (by rw [w1]; rfl) (by decide) ?_
      refine lv_lload_n hx hb dX7_cutDown_40 rfl (lv_at hl 1 rfl) ?_
      refine lv_l2i hx hb dX7_cutDown_41 rfl ?_
      refine lv_topi (fun x2 e3 => ?_)
      refine lv_i2b hx hb dX7_cutDown_42 rfl ?_
      refine lv_topi (fun x4 e5 => ?_)
      refine lv_i2l hx hb dX7_cutDown_43 rfl ?_
      refine lv_topl (fun x6 e7 => ?_)
      exact hw_lretR (v := x6) hx hb hr hlocks hQ (⟨x6, rfl, (by intro h9; first | (exfalso; omega) | (rw [e7, hli]))⟩) dX7_cutDown_44
    · refine lv_tableIn (tgt := 45) (off := 41) hx hb dX7_cutDown_4 (by omega) (by omega) (by rw [w1]; rfl) (by decide) ?_
      refine lv_lload_n hx hb dX7_cutDown_45 rfl (lv_at hl 1 rfl) ?_
      refine lv_l2i hx hb dX7_cutDown_46 rfl ?_
      refine lv_topi (fun x8 e9 => ?_)
      refine lv_i2s hx hb dX7_cutDown_47 rfl ?_
      refine lv_topi (fun x10 e11 => ?_)
      refine lv_i2l hx hb dX7_cutDown_48 rfl ?_
      refine lv_topl (fun x12 e13 => ?_)
      exact hw_lretR (v := x12) hx hb hr hlocks hQ (⟨x12, rfl, (by intro h9; first | (exfalso; omega) | (rw [e13, hli]))⟩) dX7_cutDown_49
    · refine lv_tableIn (tgt := 50) (off := 46) hx hb dX7_cutDown_4 (by omega) (by omega) (by rw [w1]; rfl) (by decide) ?_
      refine lv_lload_n hx hb dX7_cutDown_50 rfl (lv_at hl 1 rfl) ?_
      refine lv_l2i hx hb dX7_cutDown_51 rfl ?_
      refine lv_topi (fun x14 e15 => ?_)
      have hli := e15
      refine lv_i2l hx hb dX7_cutDown_52 rfl ?_
      refine lv_topl (fun x16 e17 => ?_)
      exact hw_lretR (v := x16) hx hb hr hlocks hQ (⟨x16, rfl, (by intro h9; first | (exfalso; omega) | (rw [e17, hli]))⟩) dX7_cutDown_53
    · refine lv_tableIn (tgt := 54) (off := 50) hx hb dX7_cutDown_4 (by omega) (by omega) (by rw [w1]; rfl) (by decide) ?_
      refine lv_lload_n hx hb dX7_cutDown_54 rfl (lv_at hl 1 rfl) ?_
      exact hw_lretR (v := p1) hx hb hr hlocks hQ (⟨p1, rfl, (by intro h9; first | (exfalso; omega) | (rw [None, hli]))⟩) dX7_cutDown_55
    · refine lv_tableIn (tgt := 56) (off := 52) hx hb dX7_cutDown_4 (by omega) (by omega) (by rw [w1]; rfl) (by decide) ?_
      refine lv_lload_n hx hb dX7_cutDown_56 rfl (lv_at hl 1 rfl) ?_
      refine lv_lconst (v := 1) hx hb dX7_cutDown_57 (by decide) ?_
      refine lv_land hx hb dX7_cutDown_58  ?_
      refine lv_topl (fun x18 e19 => ?_)
      exact hw_lretR (v := x18) hx hb hr hlocks hQ (⟨x18, rfl, (by intro h9; first | (exfalso; omega) | (rw [e19, hli]))⟩) dX7_cutDown_59

set_option maxHeartbeats 4000000 in
set_option maxRecDepth 100000 in
theorem k3_X7_put (l : Launch) (D : hw_D) (G : Nat → Nat) (h0 : Nat) (p1 : Int32) (p2 : Int64) (sz : Nat) (ra : Nat → Nat) (la_a sz_a : Int32) (fth : Nat → Int64) (G0 : G h0 = 6) (Ra : hw_RK G ra) : Met l yX7_put wsX7_put ({ frames := 1, cells := 0, slots := 0, locals := 22 } : Room) (hw_PC D G [.ref h0, .int p1, .long p2] sz (fun H => va_at D.1 vwCl (h0, .inr (6, hw_LK ra la_a sz_a)) H ∧ va_at D.1 vwCl ((ra 0), .inl (D.2.1 1, 24, .inr (.inl fth))) H)) (hw_QM (fun v H => ∃ (fth2 : Nat → Int64), v = none ∧ hw_HT D G H ∧ va_at D.1 vwCl (h0, .inr (6, hw_LK ra la_a sz_a)) H ∧ va_at D.1 vwCl ((ra 0), .inl (D.2.1 1, 24, .inr (.inl fth2))) H ∧ (0 ≤ p1.toInt ∧ p1.toInt < sz_a.toInt ∧ p1.toInt < 24 → la_a.toInt = 2 → fth2 = vp_updL fth p1.toNatClampNeg p2.toInt32.toInt64)) (hw_AW G [19] sz)) 0 0 (hw_AW G [19] sz) := by
  refine hw_met (cc := cX7_put) (maxL := 4) (ret := none) (plainFor_of_name (by decide)) rfl (Nat.le_of_ble_eq_true rfl) ?_
  intro p e s m args below meth c QQ ls hsz hx hb hml hr hts hown hlocks hnm hH hK hST hF hQ hl
  subst hsz
  have hS : va_S (hw_AW G [19] s.heap.size) s.heap s.heap [] := va_S.rf
  obtain ⟨va, vth⟩ := hF
  have hl : lv_has ls 4 [(0, .ref h0), (1, .int p1), (2, .long p2)] := hl
  have u_6 : ∀ w ∈ u_ws RX7 TX7 3, w.before args s = true := fun w hw => hts w ((by decide +kernel : ∀ w ∈ u_ws RX7 TX7 3, w ∈ wsX7_put) w hw)
  have fg_19_6 : hw_FG s args m 19 6 2 := ⟨RX7, "WardWalkers$Rack", RX7, TX7, 3, u_6, hown, rfl, by decide, (hts (.fieldLink RX7 19 "WardWalkers$Rack" "size" "I") (by decide +kernel)), (fun _ h9 => h9)⟩
  have fg_9_6 : hw_FG s args m 9 6 0 := ⟨RX7, "WardWalkers$Rack", RX7, TX7, 3, u_6, hown, rfl, by decide, (hts (.fieldLink RX7 9 "WardWalkers$Rack" "things" "[J") (by decide +kernel)), (fun _ h9 => h9)⟩
  refine lv_iload_n hx hb dX7_put_0 rfl (lv_at hl 1 rfl) ?_
  refine lv_if_lt (tgt := 29) hx hb dX7_put_1 (by decide) (fun c1 => ?_) (fun c1 => ?_)
  · have b2 : p1.toInt < 0 := hw_ilt c1
    exact hw_vretM hx hb hr hlocks hQ hS (⟨fth, rfl, hH, va, vth, (by intro h9 h8; first | (exfalso; omega) | (rw [← hcd h8]; exact rfl))⟩) dX7_put_29
  · have b3 : 0 ≤ p1.toInt := hw_inlt c1
    refine lv_iload_n hx hb dX7_put_4 rfl (lv_at hl 1 rfl) ?_
    refine lv_aload_n hx hb dX7_put_5 rfl (lv_at hl 0 rfl) ?_
    refine hw_get hx hb fg_19_6 hK va rfl dX7_put_6 ?_
    refine lv_icmp_ge (tgt := 29) hx hb dX7_put_9 (by decide) (fun c4 => ?_) (fun c4 => ?_)
    · have b5 : sz_a.toInt ≤ p1.toInt := hw_ile c4
      exact hw_vretM hx hb hr hlocks hQ hS (⟨fth, rfl, hH, va, vth, (by intro h9 h8; first | (exfalso; omega) | (rw [← hcd h8]; exact rfl))⟩) dX7_put_29
    · have b6 : p1.toInt < sz_a.toInt := hw_inle c4
      refine lv_iload_n hx hb dX7_put_12 rfl (lv_at hl 1 rfl) ?_
      refine lv_bipush (v := 24) hx hb dX7_put_13 (by decide) ?_
      refine lv_icmp_ge (tgt := 29) hx hb dX7_put_15 (by decide) (fun c7 => ?_) (fun c7 => ?_)
      · have b8 : 24 ≤ p1.toInt := hw_ile c7
        exact hw_vretM hx hb hr hlocks hQ hS (⟨fth, rfl, hH, va, vth, (by intro h9 h8; first | (exfalso; omega) | (rw [← hcd h8]; exact rfl))⟩) dX7_put_29
      · have b9 : p1.toInt < 24 := hw_inle c7
        refine lv_aload_n hx hb dX7_put_18 rfl (lv_at hl 0 rfl) ?_
        refine hw_get hx hb fg_9_6 hK va rfl dX7_put_19 ?_
        refine lv_iload_n hx hb dX7_put_22 rfl (lv_at hl 1 rfl) ?_
        refine lv_aload_n hx hb dX7_put_23 rfl (lv_at hl 0 rfl) ?_
        refine lv_lload_n hx hb dX7_put_24 rfl (lv_at hl 2 rfl) ?_
        refine hw_cR (va_runV (As := [.long p2]) (rest := [.int p1, .ref (ra 0)]) ⟨hx, hb, hml, hown, hts⟩ (k3_X7_cutDown l D G h0 p2 _ ra la_a sz_a G0 Ra) (cwV 1 hts gX7_put_X7_cutDown rfl rfl rfl (by decide +kernel) ⟨Nat.le_of_ble_eq_true rfl, Nat.le_of_ble_eq_true rfl⟩) (hw_pV (hw_rc (q := (RX7, TX7, 3)) hK va rfl) hH hK hST hS (by decide) (fun _ h => Or.inl h) va) rfl rfl hl.1 rfl (lv_room (Nat.le_of_ble_eq_true rfl)) dX7_put_25 ⟨Nat.le_of_ble_eq_true rfl, Nat.le_of_ble_eq_true rfl⟩) (fun v hp => ?_)
        obtain ⟨x10, rfl, q11⟩ := hp
        have hcd := q11
        refine hw_last hx hb hK hH vth (hw_in (by omega) (by omega)) (fun _ => by rw [(hw_RK_0 Ra)]; exact ⟨_, rfl⟩) hS (hw_AWi (hw_RK_0 Ra) (by decide)) dX7_put_28 (fun H locs hH vth oq hz hS => ?_)
        have va := va_at.kept va (oq _ (hw_ne G0 (hw_RK_0 Ra) (by decide)))
        obtain ⟨f12, e13⟩ : ∃ z, z = vp_updL fth p1.toNatClampNeg x10 := ⟨_, rfl⟩
        rw [← e13] at vth
        exact hw_vretM hx hb hr hlocks hQ hS (⟨f12, rfl, hH, va, vth, (by intro h9 h8; first | (exfalso; omega) | (rw [← hcd h8]; exact e13))⟩) dX7_put_29

set_option maxHeartbeats 4000000 in
set_option maxRecDepth 100000 in
theorem k3_X7_together (l : Launch) (D : hw_D) (G : Nat → Nat) (h0 : Nat) (sz : Nat) (ra : Nat → Nat) (la_a sz_a : Int32) (fth : Nat → Int64) (G0 : G h0 = 6) (Ra : hw_RK G ra) : Met l yX7_together wsX7_together ({ frames := 0, cells := 0, slots := 0, locals := 0 } : Room) (hw_PC D G [.ref h0] sz (fun H => va_at D.1 vwCl (h0, .inr (6, hw_LK ra la_a sz_a)) H ∧ va_at D.1 vwCl ((ra 0), .inl (D.2.1 1, 24, .inr (.inl fth))) H)) (hw_QR (fun v => ∃ (r : Int64), v = .long r ∧ (0 ≤ sz_a.toInt ∧ sz_a.toInt ≤ 24 → r = hw_lsum fth sz_a.toNatClampNeg))) 0 0 (fun _ => False) := by
  refine hw_met (cc := cX7_together) (maxL := 4) (ret := (some .long)) (plainFor_of_name (by decide)) rfl (Nat.le_of_ble_eq_true rfl) ?_
  intro p e s m args below meth c QQ ls hsz hx hb hml hr hts hown hlocks hnm hH hK hST hF hQ hl
  subst hsz
  have hS : va_S (hw_AW G [] s.heap.size) s.heap s.heap [] := va_S.rf
  obtain ⟨va, vth⟩ := hF
  have hl : lv_has ls 4 [(0, .ref h0)] := hl
  have u_6 : ∀ w ∈ u_ws RX7 TX7 3, w.before args s = true := fun w hw => hts w ((by decide +kernel : ∀ w ∈ u_ws RX7 TX7 3, w ∈ wsX7_together) w hw)
  have fg_19_6 : hw_FG s args m 19 6 2 := ⟨RX7, "WardWalkers$Rack", RX7, TX7, 3, u_6, hown, rfl, by decide, (hts (.fieldLink RX7 19 "WardWalkers$Rack" "size" "I") (by decide +kernel)), (fun _ h9 => h9)⟩
  have fg_9_6 : hw_FG s args m 9 6 0 := ⟨RX7, "WardWalkers$Rack", RX7, TX7, 3, u_6, hown, rfl, by decide, (hts (.fieldLink RX7 9 "WardWalkers$Rack" "things" "[J") (by decide +kernel)), (fun _ h9 => h9)⟩
  refine lv_lconst (v := 0) hx hb dX7_together_0 (by decide) ?_
  refine lv_lstore_n (lv' := [(1, .long 0), (0, .ref h0)]) hx hb dX7_together_1 rfl hl (by decide) rfl (fun ls hl => ?_)
  refine lv_iconst (v := 0) hx hb dX7_together_2 (by decide) ?_
  refine lv_istore_n (lv' := [(3, .int 0), (1, .long 0), (0, .ref h0)]) hx hb dX7_together_3 rfl hl (by decide) rfl (fun ls hl => ?_)
  have L4 : ∀ (n4 : Nat) (y3_1 : Int32) (y1_2 : Int64) (hm : (24 - y3_1.toInt).toNat < n4) (g3 : 0 ≤ y3_1.toInt ∧ y3_1.toInt ≤ 24) (inv4_0 : y1_2 = hw_lsum fth y3_1.toNatClampNeg) (inv4_1 : 0 ≤ sz_a.toInt → y3_1.toInt ≤ sz_a.toInt) (ls : Array Slot) (hl : lv_has ls 4 [(3, .int y3_1), (1, .long y1_2), (0, .ref h0)]), W p l e ({ frames := 0, cells := 0, slots := 0, locals := 0 } : Room) s m args below meth c s.heap [] 0 0 QQ (F0 m 4 ls []) := by
    intro n4
    induction n4 with
    | zero => intro y3_1 y1_2 hm; exact absurd hm (Nat.not_lt_zero _)
    | succ n4 ih4 =>
      intro y3_1 y1_2 hm g3 inv4_0 inv4_1 ls hl
      refine lv_iload_n hx hb dX7_together_4 rfl (lv_at hl 0 rfl) ?_
      refine lv_aload_n hx hb dX7_together_5 rfl (lv_at hl 2 rfl) ?_
      refine hw_get hx hb fg_19_6 hK va rfl dX7_together_6 ?_
      refine lv_icmp_ge (tgt := 33) hx hb dX7_together_9 (by decide) (fun c5 => ?_) (fun c5 => ?_)
      · have b6 : sz_a.toInt ≤ y3_1.toInt := hw_ile c5
        refine lv_lload_n hx hb dX7_together_33 rfl (lv_at hl 1 rfl) ?_
        exact hw_lretR (v := y1_2) hx hb hr hlocks hQ (⟨y1_2, rfl, (by intro h9; have h8 := inv4_1 (by omega); rw [inv4_0, show y3_1 = sz_a from Int32.toInt_inj.mp (by omega)])⟩) dX7_together_34
      · have b7 : y3_1.toInt < sz_a.toInt := hw_inle c5
        refine lv_iload_n hx hb dX7_together_12 rfl (lv_at hl 0 rfl) ?_
        refine lv_bipush (v := 24) hx hb dX7_together_13 (by decide) ?_
        refine lv_icmp_ge (tgt := 33) hx hb dX7_together_15 (by decide) (fun c8 => ?_) (fun c8 => ?_)
        · have b9 : 24 ≤ y3_1.toInt := hw_ile c8
          refine lv_lload_n hx hb dX7_together_33 rfl (lv_at hl 1 rfl) ?_
          exact hw_lretR (v := y1_2) hx hb hr hlocks hQ (⟨y1_2, rfl, (by intro h9; have h8 := inv4_1 (by omega); rw [inv4_0, show y3_1 = sz_a from Int32.toInt_inj.mp (by omega)])⟩) dX7_together_34
        · have b10 : y3_1.toInt < 24 := hw_inle c8
          refine lv_lload_n hx hb dX7_together_18 rfl (lv_at hl 1 rfl) ?_
          refine lv_aload_n hx hb dX7_together_19 rfl (lv_at hl 2 rfl) ?_
          refine hw_get hx hb fg_9_6 hK va rfl dX7_together_20 ?_
          refine lv_iload_n hx hb dX7_together_23 rfl (lv_at hl 0 rfl) ?_
          refine hw_lald hx hb hK vth (hw_in (by omega) (by omega)) dX7_together_24 ?_
          refine lv_topl (fun x11 e12 => ?_)
          have hz := e12
          refine lv_ladd hx hb dX7_together_25  ?_
          refine lv_topl (fun x13 e14 => ?_)
          refine lv_lstore_n (lv' := [(1, .long x13), (3, .int y3_1), (0, .ref h0)]) hx hb dX7_together_26 rfl hl (by decide) rfl (fun ls hl => ?_)
          obtain ⟨x15, e16⟩ : ∃ y : Int32, y = y3_1 + 1 := ⟨_, rfl⟩
          refine lv_iinc (v := x15) (lv' := [(3, .int x15), (1, .long x13), (0, .ref h0)]) hx hb dX7_together_27 hl (k := 1) rfl (by rw [e16]; rfl) (by decide) rfl (fun ls hl => ?_)
          have t17 : x15.toInt = y3_1.toInt + 1 := by rw [e16]; exact hw_add rfl rfl (by omega) (by omega)
          refine lv_goto (tgt := 4) hx hb dX7_together_30 (by decide) ?_
          exact ih4 x15 x13 (by first | omega | omega) ⟨by first | decide | omega, by first | decide | omega⟩ (by rw [e14, hz, inv4_0, hw_cls (x := y3_1) (y := x15) (by omega) (by omega)]; rfl) (by intro _; omega) _ (lv_sub hl [0, 1, 2] rfl)
  exact L4 _ 0 0 (Nat.lt_succ_self _) ⟨by first | decide | omega, by first | decide | omega⟩ (by rfl) (by intro _; have h3 : (0 : Int32).toInt = 0 := rfl; omega) _ (lv_sub hl [0, 1, 2] rfl)

set_option maxHeartbeats 4000000 in
set_option maxRecDepth 100000 in
theorem k3_X11_commonOf (l : Launch) (D : hw_D) (G : Nat → Nat) (p1 : Int64) (p2 : Int64) (sz : Nat) : Met l yX11_commonOf wsX11_commonOf ({ frames := 0, cells := 0, slots := 0, locals := 0 } : Room) (hw_PC D G [.long p1, .long p2] sz (fun H => True)) (hw_QR (fun v => ∃ (r : Int64), v = .long r ∧ (0 ≤ p1.toInt → 0 < p2.toInt ∧ p2.toInt ≤ 24 → r.toInt = (Int.gcd p1.toInt p2.toInt : Int)))) 0 0 (fun _ => False) := by
  refine hw_met (cc := cX11_commonOf) (maxL := 11) (ret := (some .long)) (plainFor_of_name (by decide)) rfl (Nat.le_of_ble_eq_true rfl) ?_
  intro p e s m args below meth c QQ ls hsz hx hb hml hr hts hown hlocks hnm hH hK hST hF hQ hl
  subst hsz
  have hS : va_S (hw_AW G [] s.heap.size) s.heap s.heap [] := va_S.rf
  have hl : lv_has ls 11 [(0, .long p1), (2, .long p2)] := hl
  refine lv_lload_n hx hb dX11_commonOf_0 rfl (lv_at hl 0 rfl) ?_
  refine lv_lstore (lv' := [(4, .long p1), (0, .long p1), (2, .long p2)]) hx hb dX11_commonOf_1 hl (by decide) rfl (fun ls hl => ?_)
  refine lv_lload_n hx hb dX11_commonOf_3 rfl (lv_at hl 2 rfl) ?_
  refine lv_lstore (lv' := [(6, .long p2), (4, .long p1), (0, .long p1), (2, .long p2)]) hx hb dX11_commonOf_4 hl (by decide) rfl (fun ls hl => ?_)
  refine lv_iconst (v := 0) hx hb dX11_commonOf_6 (by decide) ?_
  refine lv_istore (lv' := [(8, .int 0), (6, .long p2), (4, .long p1), (0, .long p1), (2, .long p2)]) hx hb dX11_commonOf_7 hl (by decide) rfl (fun ls hl => ?_)
  have L9 : ∀ (n5 : Nat) (y8_1 : Int32) (y6_2 : Int64) (y4_3 : Int64) (hm : (200 - y8_1.toInt).toNat < n5) (g4 : 0 ≤ y8_1.toInt ∧ y8_1.toInt ≤ 200) (inv9_0 : 0 ≤ p1.toInt → 0 < p2.toInt ∧ p2.toInt ≤ 24 → 0 ≤ y4_3.toInt ∧ 0 ≤ y6_2.toInt ∧ y6_2.toInt + y8_1.toInt ≤ 24 ∧ Int.gcd y4_3.toInt y6_2.toInt = Int.gcd p1.toInt p2.toInt) (ls : Array Slot) (hl : lv_has ls 11 [(8, .int y8_1), (6, .long y6_2), (4, .long y4_3), (0, .long p1), (2, .long p2)]), W p l e ({ frames := 0, cells := 0, slots := 0, locals := 0 } : Room) s m args below meth c s.heap [] 0 0 QQ (F0 m 9 ls []) := by
    intro n5
    induction n5 with
    | zero => intro y8_1 y6_2 y4_3 hm; exact absurd hm (Nat.not_lt_zero _)
    | succ n5 ih9 =>
      intro y8_1 y6_2 y4_3 hm g4 inv9_0 ls hl
      refine lv_iload hx hb dX11_commonOf_9 (lv_at hl 0 rfl) ?_
      refine lv_sipush (v := 200) hx hb dX11_commonOf_11 (by decide) ?_
      refine lv_icmp_ge (tgt := 45) hx hb dX11_commonOf_14 (by decide) (fun c6 => ?_) (fun c6 => ?_)
      · have b7 : 200 ≤ y8_1.toInt := hw_ile c6
        refine lv_lload hx hb dX11_commonOf_45 (lv_at hl 2 rfl) ?_
        exact hw_lretR (v := y4_3) hx hb hr hlocks hQ (⟨y4_3, rfl, (by intro h9 h8; obtain ⟨h1, h2, h3, h4⟩ := inv9_0 h9 h8; rw [← h4, show y6_2.toInt = 0 from by first | omega | (have h7 := hw_Leq (by assumption : y6_2 = 0); exact h7)]; exact (hw_gcd0 h1).symm)⟩) dX11_commonOf_47
      · have b8 : y8_1.toInt < 200 := hw_inle c6
        refine lv_lload hx hb dX11_commonOf_17 (lv_at hl 1 rfl) ?_
        refine lv_lconst (v := 0) hx hb dX11_commonOf_19 (by decide) ?_
        refine W.lcmp hx hb dX11_commonOf_20 ?_
        refine lv_topi (fun x9 e10 => ?_)
        refine lv_if_eq (tgt := 45) hx hb dX11_commonOf_21 (by decide) (fun c11 => ?_) (fun c11 => ?_)
        · have b12 := hw_cmpeq (e10 ▸ c11)
          refine lv_lload hx hb dX11_commonOf_45 (lv_at hl 2 rfl) ?_
          exact hw_lretR (v := y4_3) hx hb hr hlocks hQ (⟨y4_3, rfl, (by intro h9 h8; obtain ⟨h1, h2, h3, h4⟩ := inv9_0 h9 h8; rw [← h4, show y6_2.toInt = 0 from by first | omega | (have h7 := hw_Leq (by assumption : y6_2 = 0); exact h7)]; exact (hw_gcd0 h1).symm)⟩) dX11_commonOf_47
        · have b13 := hw_cmpneq (e10 ▸ c11)
          have b9y : ¬ y6_2 = 0 := by assumption
          refine lv_lload hx hb dX11_commonOf_24 (lv_at hl 2 rfl) ?_
          refine lv_lload hx hb dX11_commonOf_26 (lv_at hl 1 rfl) ?_
          refine lv_lrem hx hb dX11_commonOf_28 (by assumption) ?_
          refine lv_topl (fun x14 e15 => ?_)
          refine lv_lstore (lv' := [(9, .long x14), (8, .int y8_1), (6, .long y6_2), (4, .long y4_3), (0, .long p1), (2, .long p2)]) hx hb dX11_commonOf_29 hl (by decide) rfl (fun ls hl => ?_)
          have hr9 := (e15).trans (hw_lrem_eq _ _)
          refine lv_lload hx hb dX11_commonOf_31 (lv_at hl 2 rfl) ?_
          refine lv_lstore (lv' := [(4, .long y6_2), (9, .long x14), (8, .int y8_1), (6, .long y6_2), (0, .long p1), (2, .long p2)]) hx hb dX11_commonOf_33 hl (by decide) rfl (fun ls hl => ?_)
          refine lv_lload hx hb dX11_commonOf_35 (lv_at hl 1 rfl) ?_
          refine lv_lstore (lv' := [(6, .long x14), (4, .long y6_2), (9, .long x14), (8, .int y8_1), (0, .long p1), (2, .long p2)]) hx hb dX11_commonOf_37 hl (by decide) rfl (fun ls hl => ?_)
          obtain ⟨x16, e17⟩ : ∃ y : Int32, y = y8_1 + 1 := ⟨_, rfl⟩
          refine lv_iinc (v := x16) (lv' := [(8, .int x16), (6, .long x14), (4, .long y6_2), (9, .long x14), (0, .long p1), (2, .long p2)]) hx hb dX11_commonOf_39 hl (k := 3) rfl (by rw [e17]; rfl) (by decide) rfl (fun ls hl => ?_)
          have t18 : x16.toInt = y8_1.toInt + 1 := by rw [e17]; exact hw_add rfl rfl (by omega) (by omega)
          refine lv_goto (tgt := 9) hx hb dX11_commonOf_42 (by decide) ?_
          exact ih9 x16 x14 y6_2 (by first | omega | omega) ⟨by first | decide | omega, by first | decide | omega⟩ (by intro h9 h8; obtain ⟨h1, h2, h3, h4⟩ := inv9_0 h9 h8; have h5 := hw_lrems h1 (show 0 < y6_2.toInt by have := hw_Lne b9y; have h7 : (0 : Int64).toInt = 0 := rfl; omega) hr9; exact ⟨by omega, by omega, by omega, (hw_gcd_step hr9).trans h4⟩) _ (lv_sub hl [0, 1, 2, 4, 5] rfl)
  exact L9 _ 0 p2 p1 (Nat.lt_succ_self _) ⟨by first | decide | omega, by first | decide | omega⟩ (by intro h9 h8; have h3 : (0 : Int32).toInt = 0 := rfl; exact ⟨h9, by omega, by omega, rfl⟩) _ (lv_sub hl [0, 1, 2, 3, 4] rfl)

set_option maxHeartbeats 4000000 in
set_option maxRecDepth 100000 in
theorem k3_X11_lowest (l : Launch) (D : hw_D) (G : Nat → Nat) (p1 : Int64) (p2 : Int64) (p3 : Int32) (sz : Nat) : Met l yX11_lowest wsX11_lowest ({ frames := 1, cells := 0, slots := 0, locals := 30 } : Room) (hw_PC D G [.long p1, .long p2, .int p3] sz (fun H => True)) (hw_QR (fun v => ∃ (r : Int64), v = .long r ∧ (-1000000000000 ≤ p1.toInt ∧ p1.toInt ≤ 1000000000000 → 0 < p2.toInt ∧ p2.toInt ≤ 24 → r = hw_low p1 p2 p3))) 0 0 (fun _ => False) := by
  refine hw_met (cc := cX11_lowest) (maxL := 7) (ret := (some .long)) (plainFor_of_name (by decide)) rfl (Nat.le_of_ble_eq_true rfl) ?_
  intro p e s m args below meth c QQ ls hsz hx hb hml hr hts hown hlocks hnm hH hK hST hF hQ hl
  subst hsz
  have hS : va_S (hw_AW G [] s.heap.size) s.heap s.heap [] := va_S.rf
  have hl : lv_has ls 7 [(0, .long p1), (2, .long p2), (4, .int p3)] := hl
  refine lv_lload_n hx hb dX11_lowest_0 rfl (lv_at hl 0 rfl) ?_
  refine va_mabs_long hx hb (hml.trans hl.1.symm) hown (hts (.methodLink RX11 423 Lib.MathLoose.abs_long.x) (by decide +kernel)) (hts (.static Lib.MathLoose.abs_long.x) (by decide +kernel)) (hts (.initialized "java/lang/Math") (by decide +kernel)) (hts (.code Lib.MathLoose.abs_long.x Lib.MathLoose.abs_long.code 2 (some .long)) (by decide +kernel)) (Nat.le_of_ble_eq_true rfl) (Nat.le_of_ble_eq_true rfl) (Nat.le_of_ble_eq_true rfl) (Nat.le_of_ble_eq_true rfl) dX11_lowest_1 ?_
  refine lv_topl (fun x1 e2 => ?_)
  have hab := e2
  refine lv_lload_n hx hb dX11_lowest_4 rfl (lv_at hl 1 rfl) ?_
  refine hw_cR (va_runS (As := [.long x1, .long p2]) (rest := []) ⟨hx, hb, hml, hown, hts⟩ (k3_X11_commonOf l D G x1 p2 _) (va_cwS 2 hts gX11_lowest_X11_commonOf rfl rfl rfl (by decide +kernel) ⟨Nat.le_of_ble_eq_true rfl, Nat.le_of_ble_eq_true rfl⟩) (hw_pS hH hK hST hS (by decide) (fun _ h => Or.inl h) trivial) rfl rfl hl.1 rfl (lv_room (Nat.le_of_ble_eq_true rfl)) dX11_lowest_5 ⟨Nat.le_of_ble_eq_true rfl, Nat.le_of_ble_eq_true rfl⟩) (fun v hp => ?_)
  obtain ⟨x3, rfl, q4⟩ := hp
  have hco := q4
  have hgc := fun h9 h8 => hw_lowgcd hab h9 h8 hco
  refine lv_lstore (lv' := [(5, .long x3), (0, .long p1), (2, .long p2), (4, .int p3)]) hx hb dX11_lowest_8 hl (by decide) rfl (fun ls hl => ?_)
  refine lv_lload hx hb dX11_lowest_10 (lv_at hl 0 rfl) ?_
  refine lv_lconst (v := 0) hx hb dX11_lowest_12 (by decide) ?_
  refine W.lcmp hx hb dX11_lowest_13 ?_
  refine lv_topi (fun x5 e6 => ?_)
  refine lv_if_gt (tgt := 19) hx hb dX11_lowest_14 (by decide) (fun c7 => ?_) (fun c7 => ?_)
  · have b8 := hw_cmpgt (e6 ▸ c7)
    have b9x : (0 : Int64) < x3 := by assumption
    refine lv_iload hx hb dX11_lowest_19 (lv_at hl 3 rfl) ?_
    refine lv_if_ne (tgt := 31) hx hb dX11_lowest_21 (by decide) (fun c9 => ?_) (fun c9 => ?_)
    · have b10 : p3.toInt ≠ 0 := hw_ine c9
      refine lv_lload_n hx hb dX11_lowest_31 rfl (lv_at hl 2 rfl) ?_
      refine lv_lload hx hb dX11_lowest_32 (lv_at hl 0 rfl) ?_
      refine lv_ldiv hx hb dX11_lowest_34 (fun h9 => by rw [h9] at b9x; exact absurd b9x (by decide)) ?_
      refine lv_topl (fun x11 e12 => ?_)
      exact hw_lretR (v := x11) hx hb hr hlocks hQ (⟨x11, rfl, (by intro h9 h8; obtain ⟨h7, h6⟩ := hgc h9 h8; first | (exfalso; have h5 := hw_Lnlt b9z; have h4 : (0 : Int64).toInt = 0 := rfl; omega) | (unfold hw_low; rw [e12, h7, if_pos (by omega)]) | (unfold hw_low; rw [e12, h7, if_neg (by omega)]))⟩) dX11_lowest_35
    · have b13 : p3.toInt = 0 := hw_ieq c9
      refine lv_lload_n hx hb dX11_lowest_24 rfl (lv_at hl 1 rfl) ?_
      refine lv_lload hx hb dX11_lowest_25 (lv_at hl 0 rfl) ?_
      refine lv_ldiv hx hb dX11_lowest_27 (fun h9 => by rw [h9] at b9x; exact absurd b9x (by decide)) ?_
      refine lv_topl (fun x14 e15 => ?_)
      refine lv_goto (tgt := 35) hx hb dX11_lowest_28 (by decide) ?_
      exact hw_lretR (v := x14) hx hb hr hlocks hQ (⟨x14, rfl, (by intro h9 h8; obtain ⟨h7, h6⟩ := hgc h9 h8; first | (exfalso; have h5 := hw_Lnlt b9z; have h4 : (0 : Int64).toInt = 0 := rfl; omega) | (unfold hw_low; rw [e15, h7, if_pos (by omega)]) | (unfold hw_low; rw [e15, h7, if_neg (by omega)]))⟩) dX11_lowest_35
  · have b16 := hw_cmpngt (e6 ▸ c7)
    have b9z : ¬ (0 : Int64) < x3 := by assumption
    refine lv_lconst (v := 0) hx hb dX11_lowest_17 (by decide) ?_
    exact hw_lretR (v := 0) hx hb hr hlocks hQ (⟨0, rfl, (by intro h9 h8; obtain ⟨h7, h6⟩ := hgc h9 h8; first | (exfalso; have h5 := hw_Lnlt b9z; have h4 : (0 : Int64).toInt = 0 := rfl; omega) | (unfold hw_low; rw [None, h7, if_pos (by omega)]) | (unfold hw_low; rw [None, h7, if_neg (by omega)]))⟩) dX11_lowest_18

set_option maxHeartbeats 4000000 in
set_option maxRecDepth 100000 in
theorem k3_X11_rack (l : Launch) (D : hw_D) (G : Nat → Nat) (h0 : Nat) (p1 : Int32) (p2 : Int32) (p3 : Int32) (sz : Nat) (th : Nat → Nat) (la : Nat → Int32) (sz9 : Nat → Int32) (tt : Nat → Nat → Int64) (rx : Nat → Nat) (pn_x pc_x ks_x sc_x : Int32) (fq : Nat → Option Nat) (G0 : G h0 = 1) (Rx : hw_RX G rx) (gsc_x : 0 ≤ sc_x.toInt ∧ sc_x.toInt ≤ 6) (qq : ∀ j, j < 4 → ∃ b, fq j = some b ∧ G b = 6) : Met l yX11_rack wsX11_rack ({ frames := 1, cells := 0, slots := 0, locals := 23 } : Room) (hw_PC D G [.ref h0, .int p1, .int p2, .int p3] sz (fun H => va_at D.1 vwCl (h0, .inr (10, hw_LX rx pn_x pc_x ks_x sc_x)) H ∧ va_at D.1 vwCl ((rx 13), .inl (D.2.1 7, 4, .inr (.inr (.inr (.inr fq))))) H ∧ hw_RK3 D G fq th la sz9 tt H)) (hw_QM (fun v H => (v = some (.int (-2)) ∧ hw_HT D G H ∧ hw_RK3 D G fq th la sz9 tt H ∧ va_at D.1 vwCl (h0, .inr (10, hw_LX rx pn_x pc_x ks_x sc_x)) H ∧ va_at D.1 vwCl ((rx 13), .inl (D.2.1 7, 4, .inr (.inr (.inr (.inr fq))))) H ∧ ((p1.toInt < 0 ∨ 3 < p1.toInt))) ∨ (v = some (.int (-3)) ∧ hw_HT D G H ∧ hw_RK3 D G fq th la sz9 tt H ∧ va_at D.1 vwCl (h0, .inr (10, hw_LX rx pn_x pc_x ks_x sc_x)) H ∧ va_at D.1 vwCl ((rx 13), .inl (D.2.1 7, 4, .inr (.inr (.inr (.inr fq))))) H ∧ ((0 ≤ p1.toInt ∧ p1.toInt ≤ 3)) ∧ (p2.toInt < 0 ∨ 4 < p2.toInt ∨ 24 < p3.toInt)) ∨ (v = some (.int (-14)) ∧ hw_HT D G H ∧ hw_RK3 D G fq th la sz9 tt H ∧ va_at D.1 vwCl (h0, .inr (10, hw_LX rx pn_x pc_x ks_x sc_x)) H ∧ va_at D.1 vwCl ((rx 13), .inl (D.2.1 7, 4, .inr (.inr (.inr (.inr fq))))) H ∧ ((0 ≤ p1.toInt ∧ p1.toInt ≤ 3)) ∧ (0 ≤ p2.toInt ∧ p2.toInt ≤ 4 ∧ p3.toInt < 0)) ∨ (∃ (r : Int32) (tt2 : Nat → Nat → Int64), v = some (.int r) ∧ hw_HT D G H ∧ hw_RK3 D G fq th (va_up la p1.toNatClampNeg p2) (va_up sz9 p1.toNatClampNeg p3) tt2 H ∧ va_at D.1 vwCl (h0, .inr (10, hw_LX rx pn_x pc_x ks_x sc_x)) H ∧ va_at D.1 vwCl ((rx 13), .inl (D.2.1 7, 4, .inr (.inr (.inr (.inr fq))))) H ∧ ((0 ≤ p1.toInt ∧ p1.toInt ≤ 3)) ∧ (0 ≤ p2.toInt ∧ p2.toInt ≤ 4 ∧ 0 ≤ p3.toInt ∧ p3.toInt ≤ 24) ∧ r = p3 ∧ (∀ u, u < 24 → tt2 p1.toNatClampNeg u = 0) ∧ (∀ j, j ≠ p1.toNatClampNeg → tt2 j = tt j))) (hw_AW G [6, 19] sz)) 0 0 (hw_AW G [6, 19] sz) := by
  refine hw_met (cc := cX11_rack) (maxL := 5) (ret := (some .int)) (plainFor_of_name (by decide)) rfl (Nat.le_of_ble_eq_true rfl) ?_
  intro p e s m args below meth c QQ ls hsz hx hb hml hr hts hown hlocks hnm hH hK hST hF hQ hl
  subst hsz
  have hS : va_S (hw_AW G [6, 19] s.heap.size) s.heap s.heap [] := va_S.rf
  obtain ⟨vx, vq, hRK⟩ := hF
  have hl : lv_has ls 5 [(0, .ref h0), (1, .int p1), (2, .int p2), (3, .int p3)] := hl
  refine lv_aload_n hx hb dX11_rack_0 rfl (lv_at hl 0 rfl) ?_
  refine lv_iload_n hx hb dX11_rack_1 rfl (lv_at hl 1 rfl) ?_
  refine hw_cR (va_runV (As := [.int p1]) (rest := []) ⟨hx, hb, hml, hown, hts⟩ (k_X11_rackAt l D G h0 p1 _ rx pn_x pc_x ks_x sc_x fq G0 Rx ⟨by first | decide | omega, by first | decide | omega⟩ qq) (cwV 1 hts gX11_rack_X11_rackAt rfl rfl rfl (by decide +kernel) ⟨Nat.le_of_ble_eq_true rfl, Nat.le_of_ble_eq_true rfl⟩) (hw_pV (hw_rc (q := (RX11, TX11, 14)) hK vx rfl) hH hK hST hS (by decide) (fun _ h => Or.inl h) ⟨vx, vq⟩) rfl rfl hl.1 rfl (lv_room (Nat.le_of_ble_eq_true rfl)) dX11_rack_2 ⟨Nat.le_of_ble_eq_true rfl, Nat.le_of_ble_eq_true rfl⟩) (fun v hp => ?_)
  rcases hp with ⟨rfl, q1⟩ | ⟨b2, rfl, k3, q4, q5⟩
  · refine lv_astoreN (lv' := [(4, .null), (0, .ref h0), (1, .int p1), (2, .int p2), (3, .int p3)]) hx hb dX11_rack_5 hl (by decide) rfl (fun ls hl => ?_)
    refine lv_aloadN hx hb dX11_rack_7 (lv_at hl 0 rfl) ?_
    refine lv_ifnonnullN hx hb dX11_rack_9 ?_
    refine lv_bipush (v := (-2)) hx hb dX11_rack_12 (by decide) ?_
    exact hw_iretM (v := (-2)) hx hb hr hlocks hQ hS rfl (Or.inl ⟨rfl, hH, (by first | exact hRK | (subst_vars; exact hRK)), vx, vq, (by first | rfl | trivial | assumption | omega | (intros; first | rfl | assumption | omega | (exfalso; omega)))⟩) dX11_rack_14
  · obtain ⟨a6, r7, e8, k9, R10, v11, e12, v13⟩ := hRK.2.2 _ (hw_i4 q4)
    have e14 : a6 = b2 := Option.some.inj (e8.symm.trans q5)
    rw [e14] at k9 v11
    rw [← e12] at v13
    refine lv_astore (lv' := [(4, .ref b2), (0, .ref h0), (1, .int p1), (2, .int p2), (3, .int p3)]) hx hb dX11_rack_5 hl (by decide) rfl (fun ls hl => ?_)
    refine lv_aload hx hb dX11_rack_7 (lv_at hl 0 rfl) ?_
    refine lv_ifnonnull (tgt := 15) hx hb dX11_rack_9 (by decide) ?_
    refine lv_iload_n hx hb dX11_rack_15 rfl (lv_at hl 3 rfl) ?_
    refine hw_cR (va_runS (As := [.int p2]) (rest := []) ⟨hx, hb, hml, hown, hts⟩ (k_X11_isLane l D G p2 _) (va_cwS 1 hts gX11_rack_X11_isLane rfl rfl rfl (by decide +kernel) ⟨Nat.le_of_ble_eq_true rfl, Nat.le_of_ble_eq_true rfl⟩) (hw_pS hH hK hST hS (by decide) (fun _ h => Or.inl h) trivial) rfl rfl hl.1 rfl (lv_room (Nat.le_of_ble_eq_true rfl)) dX11_rack_16 ⟨Nat.le_of_ble_eq_true rfl, Nat.le_of_ble_eq_true rfl⟩) (fun v hp => ?_)
    rcases hp with ⟨rfl, q15⟩ | ⟨rfl, q16⟩
    · refine lv_if_eq (tgt := 28) hx hb dX11_rack_19 (by decide) (fun c17 => ?_) (fun c17 => ?_)
      · exact absurd c17 (by decide)
      · refine lv_iload_n hx hb dX11_rack_22 rfl (lv_at hl 4 rfl) ?_
        refine lv_bipush (v := 24) hx hb dX11_rack_23 (by decide) ?_
        refine lv_icmp_le (tgt := 31) hx hb dX11_rack_25 (by decide) (fun c18 => ?_) (fun c18 => ?_)
        · have b19 : p3.toInt ≤ 24 := hw_ile c18
          refine lv_iload_n hx hb dX11_rack_31 rfl (lv_at hl 4 rfl) ?_
          refine lv_if_ge (tgt := 38) hx hb dX11_rack_32 (by decide) (fun c20 => ?_) (fun c20 => ?_)
          · have b21 : 0 ≤ p3.toInt := hw_ile c20
            refine lv_aload hx hb dX11_rack_38 (lv_at hl 0 rfl) ?_
            refine lv_iload_n hx hb dX11_rack_40 rfl (lv_at hl 3 rfl) ?_
            refine lv_iload_n hx hb dX11_rack_41 rfl (lv_at hl 4 rfl) ?_
            have hs9 := hw_G6_sub k9 R10
            have hH9 := hw_G6_HT hH k9 R10 v11
            have R9 := hw_G6_R k9 R10
            refine hw_cM0 (va_runV (As := [.int p2, .int p3]) (rest := []) ⟨hx, hb, hml, hown, hts⟩ (k3_X7_begin l D (hw_G6 b2 (r7 0)) b2 p2 p3 _ r7 (la p1.toNatClampNeg) (sz9 p1.toNatClampNeg) (tt p1.toNatClampNeg) (hw_G6_a b2 (r7 0)) R9) (cwV 2 hts gX11_rack_X7_begin rfl rfl rfl (by decide +kernel) ⟨Nat.le_of_ble_eq_true rfl, Nat.le_of_ble_eq_true rfl⟩) (hw_pV (hw_rc (q := (RX7, TX7, 3)) hK v11 rfl) hH9 hK hST hS (by decide) (fun q9 h9 => Or.inl (by rw [hs9 q9 h9]; exact h9)) ⟨v11, v13⟩) rfl rfl hl.1 rfl (lv_room (Nat.le_of_ble_eq_true rfl)) dX11_rack_42 ⟨Nat.le_of_ble_eq_true rfl, Nat.le_of_ble_eq_true rfl⟩) hS (hw_AWsub2 (by decide) (by decide) hs9 hS.1) (fun v H locs hp hz hk hS => ?_)
            obtain ⟨x22, x23, f24, rfl, hH8, v25, v26, q27, q28, q29⟩ := hp
            have hH := hw_HT.merge hH hH8 hs9 hk (by decide)
            have vx := va_at.kept vx (hk _ (hw_lt vx) (hw_AWn2 hs9 (by decide) G0 (by decide) (hw_lt vx)))
            have vq := va_at.kept vq (hk _ (hw_lt vq) (hw_AWn2 hs9 (by decide) (hw_RX_13 Rx) (by decide) (hw_lt vq)))
            have hRK := hw_RK3.setG6 hRK (hw_i4 q4) q5 k9 R10 e12 v25 v26 hk
            have hbz := q29
            refine lv_iload_n hx hb dX11_rack_45 rfl (lv_at hl 4 rfl) ?_
            exact hw_iretM (v := p3) hx hb hr hlocks hQ hS rfl (Or.inr (Or.inr (Or.inr (⟨p3, (va_up tt p1.toNatClampNeg f24), rfl, hH, (by first | exact hRK | (subst_vars; exact hRK)), vx, vq, (by first | rfl | trivial | assumption | omega | (intros; first | rfl | assumption | omega | (exfalso; omega))), (by first | rfl | trivial | assumption | omega | (intros; first | rfl | assumption | omega | (exfalso; omega))), (by first | rfl | trivial | assumption | omega | (intros; first | rfl | assumption | omega | (exfalso; omega))), (by intro u hu; rw [va_up_self]; exact hbz u hu), (by intro j hj; exact va_up_ne _ _ hj)⟩)))) dX11_rack_46
          · have b30 : p3.toInt < 0 := hw_inle c20
            refine lv_bipush (v := (-14)) hx hb dX11_rack_35 (by decide) ?_
            exact hw_iretM (v := (-14)) hx hb hr hlocks hQ hS rfl (Or.inr (Or.inr (Or.inl ⟨rfl, hH, (by first | exact hRK | (subst_vars; exact hRK)), vx, vq, (by first | rfl | trivial | assumption | omega | (intros; first | rfl | assumption | omega | (exfalso; omega))), (by first | rfl | trivial | assumption | omega | (intros; first | rfl | assumption | omega | (exfalso; omega)))⟩))) dX11_rack_37
        · have b31 : 24 < p3.toInt := hw_inle c18
          refine lv_bipush (v := (-3)) hx hb dX11_rack_28 (by decide) ?_
          exact hw_iretM (v := (-3)) hx hb hr hlocks hQ hS rfl (Or.inr (Or.inl ⟨rfl, hH, (by first | exact hRK | (subst_vars; exact hRK)), vx, vq, (by first | rfl | trivial | assumption | omega | (intros; first | rfl | assumption | omega | (exfalso; omega))), (by first | rfl | trivial | assumption | omega | (intros; first | rfl | assumption | omega | (exfalso; omega)))⟩)) dX11_rack_30
    · refine lv_if_eq (tgt := 28) hx hb dX11_rack_19 (by decide) (fun c32 => ?_) (fun c32 => ?_)
      · refine lv_bipush (v := (-3)) hx hb dX11_rack_28 (by decide) ?_
        exact hw_iretM (v := (-3)) hx hb hr hlocks hQ hS rfl (Or.inr (Or.inl ⟨rfl, hH, (by first | exact hRK | (subst_vars; exact hRK)), vx, vq, (by first | rfl | trivial | assumption | omega | (intros; first | rfl | assumption | omega | (exfalso; omega))), (by first | rfl | trivial | assumption | omega | (intros; first | rfl | assumption | omega | (exfalso; omega)))⟩)) dX11_rack_30
      · exact absurd c32 (by decide)

set_option maxHeartbeats 4000000 in
set_option maxRecDepth 100000 in
theorem k3_X11_hang (l : Launch) (D : hw_D) (G : Nat → Nat) (h0 : Nat) (p1 : Int32) (p2 : Int32) (p3 : Int32) (p4 : Int64) (sz : Nat) (th : Nat → Nat) (la : Nat → Int32) (sz9 : Nat → Int32) (tt : Nat → Nat → Int64) (rx : Nat → Nat) (pn_x pc_x ks_x sc_x : Int32) (fq : Nat → Option Nat) (G0 : G h0 = 1) (Rx : hw_RX G rx) (gsc_x : 0 ≤ sc_x.toInt ∧ sc_x.toInt ≤ 6) (qq : ∀ j, j < 4 → ∃ b, fq j = some b ∧ G b = 6) (hz24 : ∀ j, j < 4 → (la j).toInt ≠ -1 → 0 ≤ (sz9 j).toInt ∧ (sz9 j).toInt ≤ 24) : Met l yX11_hang wsX11_hang ({ frames := 2, cells := 0, slots := 0, locals := 45 } : Room) (hw_PC D G [.ref h0, .int p1, .int p2, .int p3, .long p4] sz (fun H => va_at D.1 vwCl (h0, .inr (10, hw_LX rx pn_x pc_x ks_x sc_x)) H ∧ va_at D.1 vwCl ((rx 13), .inl (D.2.1 7, 4, .inr (.inr (.inr (.inr fq))))) H ∧ hw_RK3 D G fq th la sz9 tt H)) (hw_QM (fun v H => (v = some (.int (-2)) ∧ hw_HT D G H ∧ hw_RK3 D G fq th la sz9 tt H ∧ va_at D.1 vwCl (h0, .inr (10, hw_LX rx pn_x pc_x ks_x sc_x)) H ∧ va_at D.1 vwCl ((rx 13), .inl (D.2.1 7, 4, .inr (.inr (.inr (.inr fq))))) H ∧ ((p1.toInt < 0 ∨ 3 < p1.toInt))) ∨ (v = some (.int (-3)) ∧ hw_HT D G H ∧ hw_RK3 D G fq th la sz9 tt H ∧ va_at D.1 vwCl (h0, .inr (10, hw_LX rx pn_x pc_x ks_x sc_x)) H ∧ va_at D.1 vwCl ((rx 13), .inl (D.2.1 7, 4, .inr (.inr (.inr (.inr fq))))) H ∧ ((0 ≤ p1.toInt ∧ p1.toInt ≤ 3)) ∧ (p2.toInt < 0 ∨ 4 < p2.toInt)) ∨ (v = some (.int (-11)) ∧ hw_HT D G H ∧ hw_RK3 D G fq th la sz9 tt H ∧ va_at D.1 vwCl (h0, .inr (10, hw_LX rx pn_x pc_x ks_x sc_x)) H ∧ va_at D.1 vwCl ((rx 13), .inl (D.2.1 7, 4, .inr (.inr (.inr (.inr fq))))) H ∧ ((0 ≤ p1.toInt ∧ p1.toInt ≤ 3)) ∧ (0 ≤ p2.toInt ∧ p2.toInt ≤ 4) ∧ (la p1.toNatClampNeg).toInt = -1) ∨ (v = some (.int (-12)) ∧ hw_HT D G H ∧ hw_RK3 D G fq th la sz9 tt H ∧ va_at D.1 vwCl (h0, .inr (10, hw_LX rx pn_x pc_x ks_x sc_x)) H ∧ va_at D.1 vwCl ((rx 13), .inl (D.2.1 7, 4, .inr (.inr (.inr (.inr fq))))) H ∧ ((0 ≤ p1.toInt ∧ p1.toInt ≤ 3)) ∧ (0 ≤ p2.toInt ∧ p2.toInt ≤ 4) ∧ (la p1.toNatClampNeg).toInt ≠ -1 ∧ (la p1.toNatClampNeg).toInt ≠ p2.toInt) ∨ (v = some (.int (-13)) ∧ hw_HT D G H ∧ hw_RK3 D G fq th la sz9 tt H ∧ va_at D.1 vwCl (h0, .inr (10, hw_LX rx pn_x pc_x ks_x sc_x)) H ∧ va_at D.1 vwCl ((rx 13), .inl (D.2.1 7, 4, .inr (.inr (.inr (.inr fq))))) H ∧ ((0 ≤ p1.toInt ∧ p1.toInt ≤ 3)) ∧ (0 ≤ p2.toInt ∧ p2.toInt ≤ 4) ∧ (la p1.toNatClampNeg).toInt ≠ -1 ∧ (la p1.toNatClampNeg).toInt = p2.toInt ∧ (p3.toInt < 0 ∨ (sz9 p1.toNatClampNeg).toInt < p3.toInt + 1)) ∨ (∃ (tt2 : Nat → Nat → Int64), v = some (.int 1) ∧ hw_HT D G H ∧ hw_RK3 D G fq th la sz9 tt2 H ∧ va_at D.1 vwCl (h0, .inr (10, hw_LX rx pn_x pc_x ks_x sc_x)) H ∧ va_at D.1 vwCl ((rx 13), .inl (D.2.1 7, 4, .inr (.inr (.inr (.inr fq))))) H ∧ ((0 ≤ p1.toInt ∧ p1.toInt ≤ 3)) ∧ (0 ≤ p2.toInt ∧ p2.toInt ≤ 4) ∧ (la p1.toNatClampNeg).toInt ≠ -1 ∧ (la p1.toNatClampNeg).toInt = p2.toInt ∧ (0 ≤ p3.toInt ∧ p3.toInt + 1 ≤ (sz9 p1.toNatClampNeg).toInt) ∧ ((la p1.toNatClampNeg).toInt = 2 → tt2 p1.toNatClampNeg = vp_updL (tt p1.toNatClampNeg) p3.toNatClampNeg p4.toInt32.toInt64) ∧ (∀ j, j ≠ p1.toNatClampNeg → tt2 j = tt j))) (hw_AW G [19] sz)) 0 0 (hw_AW G [19] sz) := by
  refine hw_met (cc := cX11_hang) (maxL := 7) (ret := (some .int)) (plainFor_of_name (by decide)) rfl (Nat.le_of_ble_eq_true rfl) ?_
  intro p e s m args below meth c QQ ls hsz hx hb hml hr hts hown hlocks hnm hH hK hST hF hQ hl
  subst hsz
  have hS : va_S (hw_AW G [19] s.heap.size) s.heap s.heap [] := va_S.rf
  obtain ⟨vx, vq, hRK⟩ := hF
  have hl : lv_has ls 7 [(0, .ref h0), (1, .int p1), (2, .int p2), (3, .int p3), (4, .long p4)] := hl
  have u_6 : ∀ w ∈ u_ws RX7 TX7 3, w.before args s = true := fun w hw => hts w ((by decide +kernel : ∀ w ∈ u_ws RX7 TX7 3, w ∈ wsX11_hang) w hw)
  have fg_313_6 : hw_FG s args m 313 6 1 := ⟨RX11, "WardWalkers$Rack", RX7, TX7, 3, u_6, hown, rfl, by decide, (hts (.fieldLink RX11 313 "WardWalkers$Rack" "lane" "I") (by decide +kernel)), (fun _ h9 => h9)⟩
  refine lv_aload_n hx hb dX11_hang_0 rfl (lv_at hl 0 rfl) ?_
  refine lv_iload_n hx hb dX11_hang_1 rfl (lv_at hl 1 rfl) ?_
  refine hw_cR (va_runV (As := [.int p1]) (rest := []) ⟨hx, hb, hml, hown, hts⟩ (k_X11_rackAt l D G h0 p1 _ rx pn_x pc_x ks_x sc_x fq G0 Rx ⟨by first | decide | omega, by first | decide | omega⟩ qq) (cwV 1 hts gX11_hang_X11_rackAt rfl rfl rfl (by decide +kernel) ⟨Nat.le_of_ble_eq_true rfl, Nat.le_of_ble_eq_true rfl⟩) (hw_pV (hw_rc (q := (RX11, TX11, 14)) hK vx rfl) hH hK hST hS (by decide) (fun _ h => Or.inl h) ⟨vx, vq⟩) rfl rfl hl.1 rfl (lv_room (Nat.le_of_ble_eq_true rfl)) dX11_hang_2 ⟨Nat.le_of_ble_eq_true rfl, Nat.le_of_ble_eq_true rfl⟩) (fun v hp => ?_)
  rcases hp with ⟨rfl, q1⟩ | ⟨b2, rfl, k3, q4, q5⟩
  · refine lv_astoreN (lv' := [(6, .null), (0, .ref h0), (1, .int p1), (2, .int p2), (3, .int p3), (4, .long p4)]) hx hb dX11_hang_5 hl (by decide) rfl (fun ls hl => ?_)
    refine lv_aloadN hx hb dX11_hang_7 (lv_at hl 0 rfl) ?_
    refine lv_ifnonnullN hx hb dX11_hang_9 ?_
    refine lv_bipush (v := (-2)) hx hb dX11_hang_12 (by decide) ?_
    exact hw_iretM (v := (-2)) hx hb hr hlocks hQ hS rfl (Or.inl ⟨rfl, hH, (by first | exact hRK | (subst_vars; exact hRK)), vx, vq, (by first | rfl | trivial | assumption | omega | (intros; first | rfl | assumption | omega | (exfalso; omega)))⟩) dX11_hang_14
  · obtain ⟨a6, r7, e8, k9, R10, v11, e12, v13⟩ := hRK.2.2 _ (hw_i4 q4)
    have e14 : a6 = b2 := Option.some.inj (e8.symm.trans q5)
    rw [e14] at k9 v11
    rw [← e12] at v13
    refine lv_astore (lv' := [(6, .ref b2), (0, .ref h0), (1, .int p1), (2, .int p2), (3, .int p3), (4, .long p4)]) hx hb dX11_hang_5 hl (by decide) rfl (fun ls hl => ?_)
    refine lv_aload hx hb dX11_hang_7 (lv_at hl 0 rfl) ?_
    refine lv_ifnonnull (tgt := 15) hx hb dX11_hang_9 (by decide) ?_
    refine lv_iload_n hx hb dX11_hang_15 rfl (lv_at hl 3 rfl) ?_
    refine hw_cR (va_runS (As := [.int p2]) (rest := []) ⟨hx, hb, hml, hown, hts⟩ (k_X11_isLane l D G p2 _) (va_cwS 1 hts gX11_hang_X11_isLane rfl rfl rfl (by decide +kernel) ⟨Nat.le_of_ble_eq_true rfl, Nat.le_of_ble_eq_true rfl⟩) (hw_pS hH hK hST hS (by decide) (fun _ h => Or.inl h) trivial) rfl rfl hl.1 rfl (lv_room (Nat.le_of_ble_eq_true rfl)) dX11_hang_16 ⟨Nat.le_of_ble_eq_true rfl, Nat.le_of_ble_eq_true rfl⟩) (fun v hp => ?_)
    rcases hp with ⟨rfl, q15⟩ | ⟨rfl, q16⟩
    · refine lv_if_ne (tgt := 25) hx hb dX11_hang_19 (by decide) (fun c17 => ?_) (fun c17 => ?_)
      · refine lv_aload hx hb dX11_hang_25 (lv_at hl 0 rfl) ?_
        refine hw_cR (va_runV (As := []) (rest := []) ⟨hx, hb, hml, hown, hts⟩ (k_X7_isMissing l D G b2 _ r7 (la p1.toNatClampNeg) (sz9 p1.toNatClampNeg) k3 R10) (cwV 0 hts gX11_hang_X7_isMissing rfl rfl rfl (by decide +kernel) ⟨Nat.le_of_ble_eq_true rfl, Nat.le_of_ble_eq_true rfl⟩) (hw_pV (hw_rc (q := (RX7, TX7, 3)) hK v11 rfl) hH hK hST hS (by decide) (fun _ h => Or.inl h) v11) rfl rfl hl.1 rfl (lv_room (Nat.le_of_ble_eq_true rfl)) dX11_hang_27 ⟨Nat.le_of_ble_eq_true rfl, Nat.le_of_ble_eq_true rfl⟩) (fun v hp => ?_)
        rcases hp with ⟨rfl, q18⟩ | ⟨rfl, q19⟩
        · refine lv_if_eq (tgt := 36) hx hb dX11_hang_30 (by decide) (fun c20 => ?_) (fun c20 => ?_)
          · exact absurd c20 (by decide)
          · refine lv_bipush (v := (-11)) hx hb dX11_hang_33 (by decide) ?_
            exact hw_iretM (v := (-11)) hx hb hr hlocks hQ hS rfl (Or.inr (Or.inr (Or.inl ⟨rfl, hH, (by first | exact hRK | (subst_vars; exact hRK)), vx, vq, (by first | rfl | trivial | assumption | omega | (intros; first | rfl | assumption | omega | (exfalso; omega))), (by first | rfl | trivial | assumption | omega | (intros; first | rfl | assumption | omega | (exfalso; omega))), (by first | rfl | trivial | assumption | omega | (intros; first | rfl | assumption | omega | (exfalso; omega)))⟩))) dX11_hang_35
        · refine lv_if_eq (tgt := 36) hx hb dX11_hang_30 (by decide) (fun c21 => ?_) (fun c21 => ?_)
          · refine lv_aload hx hb dX11_hang_36 (lv_at hl 0 rfl) ?_
            refine hw_get hx hb fg_313_6 hK v11 rfl dX11_hang_38 ?_
            refine lv_iload_n hx hb dX11_hang_41 rfl (lv_at hl 3 rfl) ?_
            refine lv_icmp_eq (tgt := 48) hx hb dX11_hang_42 (by decide) (fun c22 => ?_) (fun c22 => ?_)
            · have b23 : (la p1.toNatClampNeg).toInt = p2.toInt := hw_ieq c22
              refine lv_aload hx hb dX11_hang_48 (lv_at hl 0 rfl) ?_
              refine lv_iload_n hx hb dX11_hang_50 rfl (lv_at hl 4 rfl) ?_
              refine lv_iconst (v := 1) hx hb dX11_hang_51 (by decide) ?_
              refine hw_cR (va_runV (As := [.int p3, .int 1]) (rest := []) ⟨hx, hb, hml, hown, hts⟩ (k_X7_spans l D G b2 p3 1 _ r7 (la p1.toNatClampNeg) (sz9 p1.toNatClampNeg) k3 R10) (cwV 2 hts gX11_hang_X7_spans rfl rfl rfl (by decide +kernel) ⟨Nat.le_of_ble_eq_true rfl, Nat.le_of_ble_eq_true rfl⟩) (hw_pV (hw_rc (q := (RX7, TX7, 3)) hK v11 rfl) hH hK hST hS (by decide) (fun _ h => Or.inl h) v11) rfl rfl hl.1 rfl (lv_room (Nat.le_of_ble_eq_true rfl)) dX11_hang_52 ⟨Nat.le_of_ble_eq_true rfl, Nat.le_of_ble_eq_true rfl⟩) (fun v hp => ?_)
              have l24 : (1 : Int32).toInt = 1 := rfl
              rcases hp with ⟨rfl, q25⟩ | ⟨rfl, q26⟩
              · refine lv_if_ne (tgt := 61) hx hb dX11_hang_55 (by decide) (fun c27 => ?_) (fun c27 => ?_)
                · have hsz := hz24 _ (hw_i4 (x := p1) (by omega)) (by omega)
                  refine lv_aload hx hb dX11_hang_61 (lv_at hl 0 rfl) ?_
                  refine lv_iload_n hx hb dX11_hang_63 rfl (lv_at hl 4 rfl) ?_
                  refine lv_lload hx hb dX11_hang_64 (lv_at hl 5 rfl) ?_
                  have hs9 := hw_G6_sub k9 R10
                  have hH9 := hw_G6_HT hH k9 R10 v11
                  have R9 := hw_G6_R k9 R10
                  refine hw_cM0 (va_runV (As := [.int p3, .long p4]) (rest := []) ⟨hx, hb, hml, hown, hts⟩ (k3_X7_put l D (hw_G6 b2 (r7 0)) b2 p3 p4 _ r7 (la p1.toNatClampNeg) (sz9 p1.toNatClampNeg) (tt p1.toNatClampNeg) (hw_G6_a b2 (r7 0)) R9) (cwV 2 hts gX11_hang_X7_put rfl rfl rfl (by decide +kernel) ⟨Nat.le_of_ble_eq_true rfl, Nat.le_of_ble_eq_true rfl⟩) (hw_pV (hw_rc (q := (RX7, TX7, 3)) hK v11 rfl) hH9 hK hST hS (by decide) (fun q9 h9 => Or.inl (by rw [hs9 q9 h9]; exact h9)) ⟨v11, v13⟩) rfl rfl hl.1 rfl (lv_room (Nat.le_of_ble_eq_true rfl)) dX11_hang_66 ⟨Nat.le_of_ble_eq_true rfl, Nat.le_of_ble_eq_true rfl⟩) hS (hw_AWsub2 (by decide) (by decide) hs9 hS.1) (fun v H locs hp hz hk hS => ?_)
                  obtain ⟨f28, rfl, hH8, v29, v30, q31⟩ := hp
                  have hH := hw_HT.merge hH hH8 hs9 hk (by decide)
                  have vx := va_at.kept vx (hk _ (hw_lt vx) (hw_AWn2 hs9 (by decide) G0 (by decide) (hw_lt vx)))
                  have vq := va_at.kept vq (hk _ (hw_lt vq) (hw_AWn2 hs9 (by decide) (hw_RX_13 Rx) (by decide) (hw_lt vq)))
                  have hRK := hw_RK3.setG6T hRK (hw_i4 q4) q5 k9 R10 e12 v29 v30 hk
                  have hpt := q31
                  refine lv_iconst (v := 1) hx hb dX11_hang_69 (by decide) ?_
                  exact hw_iretM (v := 1) hx hb hr hlocks hQ hS rfl (Or.inr (Or.inr (Or.inr (Or.inr (Or.inr (⟨(va_up tt p1.toNatClampNeg f28), rfl, hH, (by first | exact hRK | (subst_vars; exact hRK)), vx, vq, (by first | rfl | trivial | assumption | omega | (intros; first | rfl | assumption | omega | (exfalso; omega))), (by first | rfl | trivial | assumption | omega | (intros; first | rfl | assumption | omega | (exfalso; omega))), (by first | rfl | trivial | assumption | omega | (intros; first | rfl | assumption | omega | (exfalso; omega))), (by first | rfl | trivial | assumption | omega | (intros; first | rfl | assumption | omega | (exfalso; omega))), (by first | rfl | trivial | assumption | omega | (intros; first | rfl | assumption | omega | (exfalso; omega))), (by intro h9; rw [va_up_self]; exact hpt (by omega) h9), (by intro j hj; exact va_up_ne _ _ hj)⟩)))))) dX11_hang_70
                · exact absurd c27 (by decide)
              · refine lv_if_ne (tgt := 61) hx hb dX11_hang_55 (by decide) (fun c32 => ?_) (fun c32 => ?_)
                · exact absurd c32 (by decide)
                · refine lv_bipush (v := (-13)) hx hb dX11_hang_58 (by decide) ?_
                  exact hw_iretM (v := (-13)) hx hb hr hlocks hQ hS rfl (Or.inr (Or.inr (Or.inr (Or.inr (Or.inl ⟨rfl, hH, (by first | exact hRK | (subst_vars; exact hRK)), vx, vq, (by first | rfl | trivial | assumption | omega | (intros; first | rfl | assumption | omega | (exfalso; omega))), (by first | rfl | trivial | assumption | omega | (intros; first | rfl | assumption | omega | (exfalso; omega))), (by first | rfl | trivial | assumption | omega | (intros; first | rfl | assumption | omega | (exfalso; omega))), (by first | rfl | trivial | assumption | omega | (intros; first | rfl | assumption | omega | (exfalso; omega))), (by first | rfl | trivial | assumption | omega | (intros; first | rfl | assumption | omega | (exfalso; omega)))⟩))))) dX11_hang_60
            · have b33 : (la p1.toNatClampNeg).toInt ≠ p2.toInt := hw_ine c22
              refine lv_bipush (v := (-12)) hx hb dX11_hang_45 (by decide) ?_
              exact hw_iretM (v := (-12)) hx hb hr hlocks hQ hS rfl (Or.inr (Or.inr (Or.inr (Or.inl ⟨rfl, hH, (by first | exact hRK | (subst_vars; exact hRK)), vx, vq, (by first | rfl | trivial | assumption | omega | (intros; first | rfl | assumption | omega | (exfalso; omega))), (by first | rfl | trivial | assumption | omega | (intros; first | rfl | assumption | omega | (exfalso; omega))), (by first | rfl | trivial | assumption | omega | (intros; first | rfl | assumption | omega | (exfalso; omega))), (by first | rfl | trivial | assumption | omega | (intros; first | rfl | assumption | omega | (exfalso; omega)))⟩)))) dX11_hang_47
          · exact absurd c21 (by decide)
      · exact absurd c17 (by decide)
    · refine lv_if_ne (tgt := 25) hx hb dX11_hang_19 (by decide) (fun c34 => ?_) (fun c34 => ?_)
      · exact absurd c34 (by decide)
      · refine lv_bipush (v := (-3)) hx hb dX11_hang_22 (by decide) ?_
        exact hw_iretM (v := (-3)) hx hb hr hlocks hQ hS rfl (Or.inr (Or.inl ⟨rfl, hH, (by first | exact hRK | (subst_vars; exact hRK)), vx, vq, (by first | rfl | trivial | assumption | omega | (intros; first | rfl | assumption | omega | (exfalso; omega))), (by first | rfl | trivial | assumption | omega | (intros; first | rfl | assumption | omega | (exfalso; omega)))⟩)) dX11_hang_24

set_option maxHeartbeats 4000000 in
set_option maxRecDepth 100000 in
theorem k3_X11_copy (l : Launch) (D : hw_D) (G : Nat → Nat) (h0 : Nat) (p1 : Int32) (p2 : Int32) (p3 : Int32) (p4 : Int32) (p5 : Int32) (sz : Nat) (th : Nat → Nat) (la : Nat → Int32) (sz9 : Nat → Int32) (tt : Nat → Nat → Int64) (rx : Nat → Nat) (pn_x pc_x ks_x sc_x : Int32) (fq : Nat → Option Nat) (G0 : G h0 = 1) (Rx : hw_RX G rx) (gsc_x : 0 ≤ sc_x.toInt ∧ sc_x.toInt ≤ 6) (qq : ∀ j, j < 4 → ∃ b, fq j = some b ∧ G b = 6) (hz24 : ∀ j, j < 4 → (la j).toInt ≠ -1 → 0 ≤ (sz9 j).toInt ∧ (sz9 j).toInt ≤ 24) : Met l yX11_copy wsX11_copy ({ frames := 2, cells := 0, slots := 0, locals := 45 } : Room) (hw_PC D G [.ref h0, .int p1, .int p2, .int p3, .int p4, .int p5] sz (fun H => va_at D.1 vwCl (h0, .inr (10, hw_LX rx pn_x pc_x ks_x sc_x)) H ∧ va_at D.1 vwCl ((rx 13), .inl (D.2.1 7, 4, .inr (.inr (.inr (.inr fq))))) H ∧ hw_RK3 D G fq th la sz9 tt H)) (hw_QM (fun v H => (v = some (.int (-2)) ∧ hw_HT D G H ∧ hw_RK3 D G fq th la sz9 tt H ∧ va_at D.1 vwCl (h0, .inr (10, hw_LX rx pn_x pc_x ks_x sc_x)) H ∧ va_at D.1 vwCl ((rx 13), .inl (D.2.1 7, 4, .inr (.inr (.inr (.inr fq))))) H ∧ ((p1.toInt < 0 ∨ 3 < p1.toInt) ∨ (p3.toInt < 0 ∨ 3 < p3.toInt))) ∨ (v = some (.int (-11)) ∧ hw_HT D G H ∧ hw_RK3 D G fq th la sz9 tt H ∧ va_at D.1 vwCl (h0, .inr (10, hw_LX rx pn_x pc_x ks_x sc_x)) H ∧ va_at D.1 vwCl ((rx 13), .inl (D.2.1 7, 4, .inr (.inr (.inr (.inr fq))))) H ∧ ((0 ≤ p1.toInt ∧ p1.toInt ≤ 3)) ∧ ((0 ≤ p3.toInt ∧ p3.toInt ≤ 3)) ∧ ((la p1.toNatClampNeg).toInt = -1 ∨ (la p3.toNatClampNeg).toInt = -1)) ∨ (v = some (.int (-15)) ∧ hw_HT D G H ∧ hw_RK3 D G fq th la sz9 tt H ∧ va_at D.1 vwCl (h0, .inr (10, hw_LX rx pn_x pc_x ks_x sc_x)) H ∧ va_at D.1 vwCl ((rx 13), .inl (D.2.1 7, 4, .inr (.inr (.inr (.inr fq))))) H ∧ ((0 ≤ p1.toInt ∧ p1.toInt ≤ 3)) ∧ ((0 ≤ p3.toInt ∧ p3.toInt ≤ 3)) ∧ (la p1.toNatClampNeg).toInt ≠ -1 ∧ (la p3.toNatClampNeg).toInt ≠ -1 ∧ (la p1.toNatClampNeg).toInt ≠ (la p3.toNatClampNeg).toInt) ∨ (v = some (.int (-13)) ∧ hw_HT D G H ∧ hw_RK3 D G fq th la sz9 tt H ∧ va_at D.1 vwCl (h0, .inr (10, hw_LX rx pn_x pc_x ks_x sc_x)) H ∧ va_at D.1 vwCl ((rx 13), .inl (D.2.1 7, 4, .inr (.inr (.inr (.inr fq))))) H ∧ ((0 ≤ p1.toInt ∧ p1.toInt ≤ 3)) ∧ ((0 ≤ p3.toInt ∧ p3.toInt ≤ 3)) ∧ (la p1.toNatClampNeg).toInt ≠ -1 ∧ (la p3.toNatClampNeg).toInt ≠ -1 ∧ (la p1.toNatClampNeg).toInt = (la p3.toNatClampNeg).toInt ∧ (p5.toInt < 0 ∨ p2.toInt < 0 ∨ p4.toInt < 0 ∨ (sz9 p1.toNatClampNeg).toInt < p2.toInt + p5.toInt ∨ (sz9 p3.toNatClampNeg).toInt < p4.toInt + p5.toInt)) ∨ (∃ (r : Int32) (tt2 : Nat → Nat → Int64), v = some (.int r) ∧ hw_HT D G H ∧ hw_RK3 D G fq th la sz9 tt2 H ∧ va_at D.1 vwCl (h0, .inr (10, hw_LX rx pn_x pc_x ks_x sc_x)) H ∧ va_at D.1 vwCl ((rx 13), .inl (D.2.1 7, 4, .inr (.inr (.inr (.inr fq))))) H ∧ ((0 ≤ p1.toInt ∧ p1.toInt ≤ 3)) ∧ ((0 ≤ p3.toInt ∧ p3.toInt ≤ 3)) ∧ (la p1.toNatClampNeg).toInt ≠ -1 ∧ (la p3.toNatClampNeg).toInt ≠ -1 ∧ (la p1.toNatClampNeg).toInt = (la p3.toNatClampNeg).toInt ∧ (0 ≤ p5.toInt ∧ 0 ≤ p2.toInt ∧ 0 ≤ p4.toInt ∧ p2.toInt + p5.toInt ≤ (sz9 p1.toNatClampNeg).toInt ∧ p4.toInt + p5.toInt ≤ (sz9 p3.toNatClampNeg).toInt) ∧ r = p5 ∧ (∀ j, j ≠ p3.toNatClampNeg → tt2 j = tt j) ∧ ((la p3.toNatClampNeg).toInt = 2 → (∀ u, u < 24 → hw_i32 (tt p1.toNatClampNeg u)) → ∀ u, u < 24 → tt2 p3.toNatClampNeg u = hw_mv (tt p1.toNatClampNeg) (tt p3.toNatClampNeg) p2.toInt p4.toInt p5.toInt u))) (hw_AW G [19] sz)) 0 0 (hw_AW G [19] sz) := by
  refine hw_met (cc := cX11_copy) (maxL := 10) (ret := (some .int)) (plainFor_of_name (by decide)) rfl (Nat.le_of_ble_eq_true rfl) ?_
  intro p e s m args below meth c QQ ls hsz hx hb hml hr hts hown hlocks hnm hH hK hST hF hQ hl
  subst hsz
  have hS : va_S (hw_AW G [19] s.heap.size) s.heap s.heap [] := va_S.rf
  obtain ⟨vx, vq, hRK⟩ := hF
  have hl : lv_has ls 10 [(0, .ref h0), (1, .int p1), (2, .int p2), (3, .int p3), (4, .int p4), (5, .int p5)] := hl
  have u_6 : ∀ w ∈ u_ws RX7 TX7 3, w.before args s = true := fun w hw => hts w ((by decide +kernel : ∀ w ∈ u_ws RX7 TX7 3, w ∈ wsX11_copy) w hw)
  have fg_313_6 : hw_FG s args m 313 6 1 := ⟨RX11, "WardWalkers$Rack", RX7, TX7, 3, u_6, hown, rfl, by decide, (hts (.fieldLink RX11 313 "WardWalkers$Rack" "lane" "I") (by decide +kernel)), (fun _ h9 => h9)⟩
  have hp5 := hw_rng p5
  refine lv_aload_n hx hb dX11_copy_0 rfl (lv_at hl 0 rfl) ?_
  refine lv_iload_n hx hb dX11_copy_1 rfl (lv_at hl 1 rfl) ?_
  refine hw_cR (va_runV (As := [.int p1]) (rest := []) ⟨hx, hb, hml, hown, hts⟩ (k_X11_rackAt l D G h0 p1 _ rx pn_x pc_x ks_x sc_x fq G0 Rx ⟨by first | decide | omega, by first | decide | omega⟩ qq) (cwV 1 hts gX11_copy_X11_rackAt rfl rfl rfl (by decide +kernel) ⟨Nat.le_of_ble_eq_true rfl, Nat.le_of_ble_eq_true rfl⟩) (hw_pV (hw_rc (q := (RX11, TX11, 14)) hK vx rfl) hH hK hST hS (by decide) (fun _ h => Or.inl h) ⟨vx, vq⟩) rfl rfl hl.1 rfl (lv_room (Nat.le_of_ble_eq_true rfl)) dX11_copy_2 ⟨Nat.le_of_ble_eq_true rfl, Nat.le_of_ble_eq_true rfl⟩) (fun v hp => ?_)
  rcases hp with ⟨rfl, q1⟩ | ⟨b2, rfl, k3, q4, q5⟩
  · refine lv_astoreN (lv' := [(6, .null), (0, .ref h0), (1, .int p1), (2, .int p2), (3, .int p3), (4, .int p4), (5, .int p5)]) hx hb dX11_copy_5 hl (by decide) rfl (fun ls hl => ?_)
    refine lv_aload_n hx hb dX11_copy_7 rfl (lv_at hl 1 rfl) ?_
    refine lv_iload_n hx hb dX11_copy_8 rfl (lv_at hl 4 rfl) ?_
    refine hw_cR (va_runV (As := [.int p3]) (rest := []) ⟨hx, hb, hml, hown, hts⟩ (k_X11_rackAt l D G h0 p3 _ rx pn_x pc_x ks_x sc_x fq G0 Rx ⟨by first | decide | omega, by first | decide | omega⟩ qq) (cwV 1 hts gX11_copy_X11_rackAt rfl rfl rfl (by decide +kernel) ⟨Nat.le_of_ble_eq_true rfl, Nat.le_of_ble_eq_true rfl⟩) (hw_pV (hw_rc (q := (RX11, TX11, 14)) hK vx rfl) hH hK hST hS (by decide) (fun _ h => Or.inl h) ⟨vx, vq⟩) rfl rfl hl.1 rfl (lv_room (Nat.le_of_ble_eq_true rfl)) dX11_copy_9 ⟨Nat.le_of_ble_eq_true rfl, Nat.le_of_ble_eq_true rfl⟩) (fun v hp => ?_)
    rcases hp with ⟨rfl, q6⟩ | ⟨b7, rfl, k8, q9, q10⟩
    · refine lv_astoreN (lv' := [(7, .null), (6, .null), (0, .ref h0), (1, .int p1), (2, .int p2), (3, .int p3), (4, .int p4), (5, .int p5)]) hx hb dX11_copy_12 hl (by decide) rfl (fun ls hl => ?_)
      refine lv_aloadN hx hb dX11_copy_14 (lv_at hl 1 rfl) ?_
      refine lv_ifnullN (tgt := 24) hx hb dX11_copy_16 (by decide) ?_
      refine lv_bipush (v := (-2)) hx hb dX11_copy_24 (by decide) ?_
      exact hw_iretM (v := (-2)) hx hb hr hlocks hQ hS rfl (Or.inl ⟨rfl, hH, (by first | exact hRK | (subst_vars; exact hRK)), vx, vq, (by first | rfl | trivial | assumption | omega | (intros; first | rfl | assumption | omega | (exfalso; omega)))⟩) dX11_copy_26
    · obtain ⟨a11, r12, e13, k14, R15, v16, e17, v18⟩ := hRK.2.2 _ (hw_i4 q9)
      have e19 : a11 = b7 := Option.some.inj (e13.symm.trans q10)
      rw [e19] at k14 v16
      rw [← e17] at v18
      refine lv_astore (lv' := [(7, .ref b7), (6, .null), (0, .ref h0), (1, .int p1), (2, .int p2), (3, .int p3), (4, .int p4), (5, .int p5)]) hx hb dX11_copy_12 hl (by decide) rfl (fun ls hl => ?_)
      refine lv_aloadN hx hb dX11_copy_14 (lv_at hl 1 rfl) ?_
      refine lv_ifnullN (tgt := 24) hx hb dX11_copy_16 (by decide) ?_
      refine lv_bipush (v := (-2)) hx hb dX11_copy_24 (by decide) ?_
      exact hw_iretM (v := (-2)) hx hb hr hlocks hQ hS rfl (Or.inl ⟨rfl, hH, (by first | exact hRK | (subst_vars; exact hRK)), vx, vq, (by first | rfl | trivial | assumption | omega | (intros; first | rfl | assumption | omega | (exfalso; omega)))⟩) dX11_copy_26
  · obtain ⟨a20, r21, e22, k23, R24, v25, e26, v27⟩ := hRK.2.2 _ (hw_i4 q4)
    have e28 : a20 = b2 := Option.some.inj (e22.symm.trans q5)
    rw [e28] at k23 v25
    rw [← e26] at v27
    refine lv_astore (lv' := [(6, .ref b2), (0, .ref h0), (1, .int p1), (2, .int p2), (3, .int p3), (4, .int p4), (5, .int p5)]) hx hb dX11_copy_5 hl (by decide) rfl (fun ls hl => ?_)
    refine lv_aload_n hx hb dX11_copy_7 rfl (lv_at hl 1 rfl) ?_
    refine lv_iload_n hx hb dX11_copy_8 rfl (lv_at hl 4 rfl) ?_
    refine hw_cR (va_runV (As := [.int p3]) (rest := []) ⟨hx, hb, hml, hown, hts⟩ (k_X11_rackAt l D G h0 p3 _ rx pn_x pc_x ks_x sc_x fq G0 Rx ⟨by first | decide | omega, by first | decide | omega⟩ qq) (cwV 1 hts gX11_copy_X11_rackAt rfl rfl rfl (by decide +kernel) ⟨Nat.le_of_ble_eq_true rfl, Nat.le_of_ble_eq_true rfl⟩) (hw_pV (hw_rc (q := (RX11, TX11, 14)) hK vx rfl) hH hK hST hS (by decide) (fun _ h => Or.inl h) ⟨vx, vq⟩) rfl rfl hl.1 rfl (lv_room (Nat.le_of_ble_eq_true rfl)) dX11_copy_9 ⟨Nat.le_of_ble_eq_true rfl, Nat.le_of_ble_eq_true rfl⟩) (fun v hp => ?_)
    rcases hp with ⟨rfl, q29⟩ | ⟨b30, rfl, k31, q32, q33⟩
    · refine lv_astoreN (lv' := [(7, .null), (6, .ref b2), (0, .ref h0), (1, .int p1), (2, .int p2), (3, .int p3), (4, .int p4), (5, .int p5)]) hx hb dX11_copy_12 hl (by decide) rfl (fun ls hl => ?_)
      refine lv_aload hx hb dX11_copy_14 (lv_at hl 1 rfl) ?_
      refine lv_ifnull hx hb dX11_copy_16 ?_
      refine lv_aloadN hx hb dX11_copy_19 (lv_at hl 0 rfl) ?_
      refine lv_ifnonnullN hx hb dX11_copy_21 ?_
      refine lv_bipush (v := (-2)) hx hb dX11_copy_24 (by decide) ?_
      exact hw_iretM (v := (-2)) hx hb hr hlocks hQ hS rfl (Or.inl ⟨rfl, hH, (by first | exact hRK | (subst_vars; exact hRK)), vx, vq, (by first | rfl | trivial | assumption | omega | (intros; first | rfl | assumption | omega | (exfalso; omega)))⟩) dX11_copy_26
    · obtain ⟨a34, r35, e36, k37, R38, v39, e40, v41⟩ := hRK.2.2 _ (hw_i4 q32)
      have e42 : a34 = b30 := Option.some.inj (e36.symm.trans q33)
      rw [e42] at k37 v39
      rw [← e40] at v41
      refine lv_astore (lv' := [(7, .ref b30), (6, .ref b2), (0, .ref h0), (1, .int p1), (2, .int p2), (3, .int p3), (4, .int p4), (5, .int p5)]) hx hb dX11_copy_12 hl (by decide) rfl (fun ls hl => ?_)
      refine lv_aload hx hb dX11_copy_14 (lv_at hl 1 rfl) ?_
      refine lv_ifnull hx hb dX11_copy_16 ?_
      refine lv_aload hx hb dX11_copy_19 (lv_at hl 0 rfl) ?_
      refine lv_ifnonnull (tgt := 27) hx hb dX11_copy_21 (by decide) ?_
      refine lv_aload hx hb dX11_copy_27 (lv_at hl 1 rfl) ?_
      refine hw_cR (va_runV (As := []) (rest := []) ⟨hx, hb, hml, hown, hts⟩ (k_X7_isMissing l D G b2 _ r21 (la p1.toNatClampNeg) (sz9 p1.toNatClampNeg) k3 R24) (cwV 0 hts gX11_copy_X7_isMissing rfl rfl rfl (by decide +kernel) ⟨Nat.le_of_ble_eq_true rfl, Nat.le_of_ble_eq_true rfl⟩) (hw_pV (hw_rc (q := (RX7, TX7, 3)) hK v25 rfl) hH hK hST hS (by decide) (fun _ h => Or.inl h) v25) rfl rfl hl.1 rfl (lv_room (Nat.le_of_ble_eq_true rfl)) dX11_copy_29 ⟨Nat.le_of_ble_eq_true rfl, Nat.le_of_ble_eq_true rfl⟩) (fun v hp => ?_)
      rcases hp with ⟨rfl, q43⟩ | ⟨rfl, q44⟩
      · refine lv_if_ne (tgt := 43) hx hb dX11_copy_32 (by decide) (fun c45 => ?_) (fun c45 => ?_)
        · refine lv_bipush (v := (-11)) hx hb dX11_copy_43 (by decide) ?_
          exact hw_iretM (v := (-11)) hx hb hr hlocks hQ hS rfl (Or.inr (Or.inl ⟨rfl, hH, (by first | exact hRK | (subst_vars; exact hRK)), vx, vq, (by first | rfl | trivial | assumption | omega | (intros; first | rfl | assumption | omega | (exfalso; omega))), (by first | rfl | trivial | assumption | omega | (intros; first | rfl | assumption | omega | (exfalso; omega))), (by first | rfl | trivial | assumption | omega | (intros; first | rfl | assumption | omega | (exfalso; omega)))⟩)) dX11_copy_45
        · exact absurd c45 (by decide)
      · refine lv_if_ne (tgt := 43) hx hb dX11_copy_32 (by decide) (fun c46 => ?_) (fun c46 => ?_)
        · exact absurd c46 (by decide)
        · refine lv_aload hx hb dX11_copy_35 (lv_at hl 0 rfl) ?_
          refine hw_cR (va_runV (As := []) (rest := []) ⟨hx, hb, hml, hown, hts⟩ (k_X7_isMissing l D G b30 _ r35 (la p3.toNatClampNeg) (sz9 p3.toNatClampNeg) k31 R38) (cwV 0 hts gX11_copy_X7_isMissing rfl rfl rfl (by decide +kernel) ⟨Nat.le_of_ble_eq_true rfl, Nat.le_of_ble_eq_true rfl⟩) (hw_pV (hw_rc (q := (RX7, TX7, 3)) hK v39 rfl) hH hK hST hS (by decide) (fun _ h => Or.inl h) v39) rfl rfl hl.1 rfl (lv_room (Nat.le_of_ble_eq_true rfl)) dX11_copy_37 ⟨Nat.le_of_ble_eq_true rfl, Nat.le_of_ble_eq_true rfl⟩) (fun v hp => ?_)
          rcases hp with ⟨rfl, q47⟩ | ⟨rfl, q48⟩
          · refine lv_if_eq (tgt := 46) hx hb dX11_copy_40 (by decide) (fun c49 => ?_) (fun c49 => ?_)
            · exact absurd c49 (by decide)
            · refine lv_bipush (v := (-11)) hx hb dX11_copy_43 (by decide) ?_
              exact hw_iretM (v := (-11)) hx hb hr hlocks hQ hS rfl (Or.inr (Or.inl ⟨rfl, hH, (by first | exact hRK | (subst_vars; exact hRK)), vx, vq, (by first | rfl | trivial | assumption | omega | (intros; first | rfl | assumption | omega | (exfalso; omega))), (by first | rfl | trivial | assumption | omega | (intros; first | rfl | assumption | omega | (exfalso; omega))), (by first | rfl | trivial | assumption | omega | (intros; first | rfl | assumption | omega | (exfalso; omega)))⟩)) dX11_copy_45
          · refine lv_if_eq (tgt := 46) hx hb dX11_copy_40 (by decide) (fun c50 => ?_) (fun c50 => ?_)
            · refine lv_aload hx hb dX11_copy_46 (lv_at hl 1 rfl) ?_
              refine hw_get hx hb fg_313_6 hK v25 rfl dX11_copy_48 ?_
              refine lv_aload hx hb dX11_copy_51 (lv_at hl 0 rfl) ?_
              refine hw_get hx hb fg_313_6 hK v39 rfl dX11_copy_53 ?_
              refine lv_icmp_eq (tgt := 62) hx hb dX11_copy_56 (by decide) (fun c51 => ?_) (fun c51 => ?_)
              · have b52 : (la p1.toNatClampNeg).toInt = (la p3.toNatClampNeg).toInt := hw_ieq c51
                refine lv_aload hx hb dX11_copy_62 (lv_at hl 1 rfl) ?_
                refine lv_iload_n hx hb dX11_copy_64 rfl (lv_at hl 4 rfl) ?_
                refine lv_iload hx hb dX11_copy_65 (lv_at hl 7 rfl) ?_
                refine hw_cR (va_runV (As := [.int p2, .int p5]) (rest := []) ⟨hx, hb, hml, hown, hts⟩ (k_X7_spans l D G b2 p2 p5 _ r21 (la p1.toNatClampNeg) (sz9 p1.toNatClampNeg) k3 R24) (cwV 2 hts gX11_copy_X7_spans rfl rfl rfl (by decide +kernel) ⟨Nat.le_of_ble_eq_true rfl, Nat.le_of_ble_eq_true rfl⟩) (hw_pV (hw_rc (q := (RX7, TX7, 3)) hK v25 rfl) hH hK hST hS (by decide) (fun _ h => Or.inl h) v25) rfl rfl hl.1 rfl (lv_room (Nat.le_of_ble_eq_true rfl)) dX11_copy_67 ⟨Nat.le_of_ble_eq_true rfl, Nat.le_of_ble_eq_true rfl⟩) (fun v hp => ?_)
                rcases hp with ⟨rfl, q53⟩ | ⟨rfl, q54⟩
                · refine lv_if_eq (tgt := 85) hx hb dX11_copy_70 (by decide) (fun c55 => ?_) (fun c55 => ?_)
                  · exact absurd c55 (by decide)
                  · refine lv_aload hx hb dX11_copy_73 (lv_at hl 0 rfl) ?_
                    refine lv_iload hx hb dX11_copy_75 (lv_at hl 6 rfl) ?_
                    refine lv_iload hx hb dX11_copy_77 (lv_at hl 7 rfl) ?_
                    refine hw_cR (va_runV (As := [.int p4, .int p5]) (rest := []) ⟨hx, hb, hml, hown, hts⟩ (k_X7_spans l D G b30 p4 p5 _ r35 (la p3.toNatClampNeg) (sz9 p3.toNatClampNeg) k31 R38) (cwV 2 hts gX11_copy_X7_spans rfl rfl rfl (by decide +kernel) ⟨Nat.le_of_ble_eq_true rfl, Nat.le_of_ble_eq_true rfl⟩) (hw_pV (hw_rc (q := (RX7, TX7, 3)) hK v39 rfl) hH hK hST hS (by decide) (fun _ h => Or.inl h) v39) rfl rfl hl.1 rfl (lv_room (Nat.le_of_ble_eq_true rfl)) dX11_copy_79 ⟨Nat.le_of_ble_eq_true rfl, Nat.le_of_ble_eq_true rfl⟩) (fun v hp => ?_)
                    rcases hp with ⟨rfl, q56⟩ | ⟨rfl, q57⟩
                    · refine lv_if_ne (tgt := 88) hx hb dX11_copy_82 (by decide) (fun c58 => ?_) (fun c58 => ?_)
                      · have hsa := hz24 _ (hw_i4 (x := p1) (by omega)) (by omega)
                        have hsb := hz24 _ (hw_i4 (x := p3) (by omega)) (by omega)
                        refine lv_iconst (v := 0) hx hb dX11_copy_88 (by decide) ?_
                        refine lv_istore (lv' := [(8, .int 0), (7, .ref b30), (6, .ref b2), (0, .ref h0), (1, .int p1), (2, .int p2), (3, .int p3), (4, .int p4), (5, .int p5)]) hx hb dX11_copy_89 hl (by decide) rfl (fun ls hl => ?_)
                        have L91 : ∀ (n62 : Nat) (y8_59 : Int32) (tt60 : Nat → Nat → Int64) (hm : (p5.toInt - y8_59.toInt).toNat < n62) (g61 : 0 ≤ y8_59.toInt ∧ y8_59.toInt ≤ 24) (inv91_0 : ∀ j, j ≠ p3.toNatClampNeg → tt60 j = tt j) (inv91_1 : (la p3.toNatClampNeg).toInt = 2 → (∀ u, u < 24 → hw_i32 (tt p1.toNatClampNeg u)) → ∀ u, u < 24 → tt60 p3.toNatClampNeg u = hw_mvs (tt p1.toNatClampNeg) (tt p3.toNatClampNeg) p2.toInt p4.toInt p5.toInt y8_59.toInt u) (inv91_2 : y8_59.toInt ≤ p5.toInt) (H : Heap) (locs : List Loc) (hH : hw_HT D G H) (vx : va_at D.1 vwCl (h0, .inr (10, hw_LX rx pn_x pc_x ks_x sc_x)) H) (vq : va_at D.1 vwCl ((rx 13), .inl (D.2.1 7, 4, .inr (.inr (.inr (.inr fq))))) H) (hRK : hw_RK3 D G fq th la sz9 tt60 H) (hS : va_S (hw_AW G [19] s.heap.size) s.heap H locs) (ls : Array Slot) (hl : lv_has ls 10 [(8, .int y8_59), (7, .ref b30), (6, .ref b2), (0, .ref h0), (1, .int p1), (2, .int p2), (3, .int p3), (4, .int p4), (5, .int p5)]), W p l e ({ frames := 2, cells := 0, slots := 0, locals := 45 } : Room) s m args below meth c H locs 0 0 QQ (F0 m 91 ls []) := by
                          intro n62
                          induction n62 with
                          | zero => intro y8_59 tt60 hm; exact absurd hm (Nat.not_lt_zero _)
                          | succ n62 ih91 =>
                            intro y8_59 tt60 hm g61 inv91_0 inv91_1 inv91_2 H locs hH vx vq hRK hS ls hl
                            refine lv_iload hx hb dX11_copy_91 (lv_at hl 0 rfl) ?_
                            refine lv_iload hx hb dX11_copy_93 (lv_at hl 8 rfl) ?_
                            refine lv_icmp_ge (tgt := 143) hx hb dX11_copy_95 (by decide) (fun c63 => ?_) (fun c63 => ?_)
                            · have b64 : p5.toInt ≤ y8_59.toInt := hw_ile c63
                              refine lv_iload hx hb dX11_copy_143 (lv_at hl 8 rfl) ?_
                              exact hw_iretM (v := p5) hx hb hr hlocks hQ hS rfl (Or.inr (Or.inr (Or.inr (Or.inr (⟨p5, tt60, rfl, hH, (by first | exact hRK | (subst_vars; exact hRK)), vx, vq, (by first | rfl | trivial | assumption | omega | (intros; first | rfl | assumption | omega | (exfalso; omega))), (by first | rfl | trivial | assumption | omega | (intros; first | rfl | assumption | omega | (exfalso; omega))), (by first | rfl | trivial | assumption | omega | (intros; first | rfl | assumption | omega | (exfalso; omega))), (by first | rfl | trivial | assumption | omega | (intros; first | rfl | assumption | omega | (exfalso; omega))), (by first | rfl | trivial | assumption | omega | (intros; first | rfl | assumption | omega | (exfalso; omega))), (by first | rfl | trivial | assumption | omega | (intros; first | rfl | assumption | omega | (exfalso; omega))), (by first | rfl | trivial | assumption | omega | (intros; first | rfl | assumption | omega | (exfalso; omega))), (by intro j hj; exact inv91_0 j hj), (by intro h9 h8 u hu; rw [inv91_1 h9 h8 u hu, show y8_59.toInt = p5.toInt from by omega]; exact hw_mvs_n _ _ _ _ _ u)⟩))))) dX11_copy_145
                            · have b65 : y8_59.toInt < p5.toInt := hw_inle c63
                              refine lv_iload_n hx hb dX11_copy_98 rfl (lv_at hl 5 rfl) ?_
                              refine lv_iload hx hb dX11_copy_99 (lv_at hl 7 rfl) ?_
                              refine lv_icmp_ge (tgt := 114) hx hb dX11_copy_101 (by decide) (fun c66 => ?_) (fun c66 => ?_)
                              · have b67 : p4.toInt ≤ p2.toInt := hw_ile c66
                                refine lv_iload hx hb dX11_copy_114 (lv_at hl 0 rfl) ?_
                                refine lv_istore (lv' := [(9, .int y8_59), (8, .int y8_59), (7, .ref b30), (6, .ref b2), (0, .ref h0), (1, .int p1), (2, .int p2), (3, .int p3), (4, .int p4), (5, .int p5)]) hx hb dX11_copy_116 hl (by decide) rfl (fun ls hl => ?_)
                                obtain ⟨a68, r69, e70, k71, R72, v73, e74, v75⟩ := hRK.2.2 _ (hw_i4 q4)
                                have e76 : a68 = b2 := Option.some.inj (e70.symm.trans q5)
                                rw [e76] at k71 v73
                                rw [← e74] at v75
                                obtain ⟨a77, r78, e79, k80, R81, v82, e83, v84⟩ := hRK.2.2 _ (hw_i4 q32)
                                have e85 : a77 = b30 := Option.some.inj (e79.symm.trans q33)
                                rw [e85] at k80 v82
                                rw [← e83] at v84
                                refine lv_aload hx hb dX11_copy_118 (lv_at hl 2 rfl) ?_
                                refine lv_iload hx hb dX11_copy_120 (lv_at hl 8 rfl) ?_
                                refine lv_iload hx hb dX11_copy_122 (lv_at hl 0 rfl) ?_
                                refine lv_iadd hx hb dX11_copy_124 ?_
                                refine lv_topi (fun x86 e87 => ?_)
                                have t88 : x86.toInt = p4.toInt + y8_59.toInt := by rw [e87]; exact hw_add rfl rfl (by omega) (by omega)
                                refine lv_aload hx hb dX11_copy_125 (lv_at hl 3 rfl) ?_
                                refine lv_iload_n hx hb dX11_copy_127 rfl (lv_at hl 6 rfl) ?_
                                refine lv_iload hx hb dX11_copy_128 (lv_at hl 0 rfl) ?_
                                refine lv_iadd hx hb dX11_copy_130 ?_
                                refine lv_topi (fun x89 e90 => ?_)
                                have t91 : x89.toInt = p2.toInt + y8_59.toInt := by rw [e90]; exact hw_add rfl rfl (by omega) (by omega)
                                refine hw_cR (va_runV (As := [.int x89]) (rest := [.int x86, .ref b30]) ⟨hx, hb, hml, hown, hts⟩ (k3_X7_thingAt l D G b2 x89 _ r69 (la p1.toNatClampNeg) (sz9 p1.toNatClampNeg) (tt60 p1.toNatClampNeg) k3 R72) (cwV 1 hts gX11_copy_X7_thingAt rfl rfl rfl (by decide +kernel) ⟨Nat.le_of_ble_eq_true rfl, Nat.le_of_ble_eq_true rfl⟩) (hw_pV (hw_rc (q := (RX7, TX7, 3)) hK v73 rfl) hH hK hST hS (by decide) (fun _ h => Or.inl h) ⟨v73, v75⟩) rfl rfl hl.1 rfl (lv_room (Nat.le_of_ble_eq_true rfl)) dX11_copy_131 ⟨Nat.le_of_ble_eq_true rfl, Nat.le_of_ble_eq_true rfl⟩) (fun v hp => ?_)
                                obtain ⟨x92, rfl, q93⟩ := hp
                                have hth := q93
                                have hsi : x89.toNatClampNeg = (p2.toInt + y8_59.toInt).toNat := by rw [hw_tc]; omega
                                have hs9 := hw_G6_sub k80 R81
                                have hH9 := hw_G6_HT hH k80 R81 v82
                                have R9 := hw_G6_R k80 R81
                                refine hw_cM0 (va_runV (As := [.int x86, .long x92]) (rest := []) ⟨hx, hb, hml, hown, hts⟩ (k3_X7_put l D (hw_G6 b30 (r78 0)) b30 x86 x92 _ r78 (la p3.toNatClampNeg) (sz9 p3.toNatClampNeg) (tt60 p3.toNatClampNeg) (hw_G6_a b30 (r78 0)) R9) (cwV 2 hts gX11_copy_X7_put rfl rfl rfl (by decide +kernel) ⟨Nat.le_of_ble_eq_true rfl, Nat.le_of_ble_eq_true rfl⟩) (hw_pV (hw_rc (q := (RX7, TX7, 3)) hK v82 rfl) hH9 hK hST hS (by decide) (fun q9 h9 => Or.inl (by rw [hs9 q9 h9]; exact h9)) ⟨v82, v84⟩) rfl rfl hl.1 rfl (lv_room (Nat.le_of_ble_eq_true rfl)) dX11_copy_134 ⟨Nat.le_of_ble_eq_true rfl, Nat.le_of_ble_eq_true rfl⟩) hS (hw_AWsub2 (by decide) (by decide) hs9 hS.1) (fun v H locs hp hz hk hS => ?_)
                                obtain ⟨f94, rfl, hH8, v95, v96, q97⟩ := hp
                                have hH := hw_HT.merge hH hH8 hs9 hk (by decide)
                                have vx := va_at.kept vx (hk _ (hw_lt vx) (hw_AWn2 hs9 (by decide) G0 (by decide) (hw_lt vx)))
                                have vq := va_at.kept vq (hk _ (hw_lt vq) (hw_AWn2 hs9 (by decide) (hw_RX_13 Rx) (by decide) (hw_lt vq)))
                                have hRK := hw_RK3.setG6T hRK (hw_i4 q32) q33 k80 R81 e83 v95 v96 hk
                                have hpt := q97
                                have hqi : x86.toNatClampNeg = (p4.toInt + y8_59.toInt).toNat := by rw [hw_tc]; omega
                                obtain ⟨x98, e99⟩ : ∃ y : Int32, y = y8_59 + 1 := ⟨_, rfl⟩
                                refine lv_iinc (v := x98) (lv' := [(8, .int x98), (9, .int y8_59), (7, .ref b30), (6, .ref b2), (0, .ref h0), (1, .int p1), (2, .int p2), (3, .int p3), (4, .int p4), (5, .int p5)]) hx hb dX11_copy_137 hl (k := 1) rfl (by rw [e99]; rfl) (by decide) rfl (fun ls hl => ?_)
                                have t100 : x98.toInt = y8_59.toInt + 1 := by rw [e99]; exact hw_add rfl rfl (by omega) (by omega)
                                refine lv_goto (tgt := 91) hx hb dX11_copy_140 (by decide) ?_
                                exact ih91 x98 (va_up tt60 p3.toNatClampNeg f94) (by first | omega | omega) ⟨by first | decide | omega, by first | decide | omega⟩ (by intro j hj; rw [va_up_ne _ _ hj]; exact inv91_0 j hj) (by intro h9 h8; rw [va_up_self, hpt (by omega) h9, hqi, show x98.toInt = y8_59.toInt + 1 from by omega]; refine hw_mvs_step (t := y8_59.toInt) (hw_tf inv91_0) (inv91_1 h9 h8) h8 (by omega) (by omega) (by omega) (by omega) (by omega) (by omega) (by omega) ?_; rw [← hsi]; exact hth (by omega)) (by omega) _ _ hH vx vq hRK hS _ (lv_sub hl [0, 2, 3, 4, 5, 6, 7, 8, 9] rfl)
                              · have b101 : p2.toInt < p4.toInt := hw_inle c66
                                refine lv_iload hx hb dX11_copy_104 (lv_at hl 8 rfl) ?_
                                refine lv_iconst (v := 1) hx hb dX11_copy_106 (by decide) ?_
                                refine lv_isub hx hb dX11_copy_107 ?_
                                refine lv_topi (fun x102 e103 => ?_)
                                have t104 : x102.toInt = p5.toInt - 1 := by rw [e103]; exact hw_sub rfl rfl (by omega) (by omega)
                                refine lv_iload hx hb dX11_copy_108 (lv_at hl 0 rfl) ?_
                                refine lv_isub hx hb dX11_copy_110 ?_
                                refine lv_topi (fun x105 e106 => ?_)
                                have t107 : x105.toInt = x102.toInt - y8_59.toInt := by rw [e106]; exact hw_sub rfl rfl (by omega) (by omega)
                                refine lv_goto (tgt := 116) hx hb dX11_copy_111 (by decide) ?_
                                refine lv_istore (lv' := [(9, .int x105), (8, .int y8_59), (7, .ref b30), (6, .ref b2), (0, .ref h0), (1, .int p1), (2, .int p2), (3, .int p3), (4, .int p4), (5, .int p5)]) hx hb dX11_copy_116 hl (by decide) rfl (fun ls hl => ?_)
                                obtain ⟨a108, r109, e110, k111, R112, v113, e114, v115⟩ := hRK.2.2 _ (hw_i4 q4)
                                have e116 : a108 = b2 := Option.some.inj (e110.symm.trans q5)
                                rw [e116] at k111 v113
                                rw [← e114] at v115
                                obtain ⟨a117, r118, e119, k120, R121, v122, e123, v124⟩ := hRK.2.2 _ (hw_i4 q32)
                                have e125 : a117 = b30 := Option.some.inj (e119.symm.trans q33)
                                rw [e125] at k120 v122
                                rw [← e123] at v124
                                refine lv_aload hx hb dX11_copy_118 (lv_at hl 2 rfl) ?_
                                refine lv_iload hx hb dX11_copy_120 (lv_at hl 8 rfl) ?_
                                refine lv_iload hx hb dX11_copy_122 (lv_at hl 0 rfl) ?_
                                refine lv_iadd hx hb dX11_copy_124 ?_
                                refine lv_topi (fun x126 e127 => ?_)
                                have t128 : x126.toInt = p4.toInt + x105.toInt := by rw [e127]; exact hw_add rfl rfl (by omega) (by omega)
                                refine lv_aload hx hb dX11_copy_125 (lv_at hl 3 rfl) ?_
                                refine lv_iload_n hx hb dX11_copy_127 rfl (lv_at hl 6 rfl) ?_
                                refine lv_iload hx hb dX11_copy_128 (lv_at hl 0 rfl) ?_
                                refine lv_iadd hx hb dX11_copy_130 ?_
                                refine lv_topi (fun x129 e130 => ?_)
                                have t131 : x129.toInt = p2.toInt + x105.toInt := by rw [e130]; exact hw_add rfl rfl (by omega) (by omega)
                                refine hw_cR (va_runV (As := [.int x129]) (rest := [.int x126, .ref b30]) ⟨hx, hb, hml, hown, hts⟩ (k3_X7_thingAt l D G b2 x129 _ r109 (la p1.toNatClampNeg) (sz9 p1.toNatClampNeg) (tt60 p1.toNatClampNeg) k3 R112) (cwV 1 hts gX11_copy_X7_thingAt rfl rfl rfl (by decide +kernel) ⟨Nat.le_of_ble_eq_true rfl, Nat.le_of_ble_eq_true rfl⟩) (hw_pV (hw_rc (q := (RX7, TX7, 3)) hK v113 rfl) hH hK hST hS (by decide) (fun _ h => Or.inl h) ⟨v113, v115⟩) rfl rfl hl.1 rfl (lv_room (Nat.le_of_ble_eq_true rfl)) dX11_copy_131 ⟨Nat.le_of_ble_eq_true rfl, Nat.le_of_ble_eq_true rfl⟩) (fun v hp => ?_)
                                obtain ⟨x132, rfl, q133⟩ := hp
                                have hth := q133
                                have hsi : x129.toNatClampNeg = (p2.toInt + x105.toInt).toNat := by rw [hw_tc]; omega
                                have hs9 := hw_G6_sub k120 R121
                                have hH9 := hw_G6_HT hH k120 R121 v122
                                have R9 := hw_G6_R k120 R121
                                refine hw_cM0 (va_runV (As := [.int x126, .long x132]) (rest := []) ⟨hx, hb, hml, hown, hts⟩ (k3_X7_put l D (hw_G6 b30 (r118 0)) b30 x126 x132 _ r118 (la p3.toNatClampNeg) (sz9 p3.toNatClampNeg) (tt60 p3.toNatClampNeg) (hw_G6_a b30 (r118 0)) R9) (cwV 2 hts gX11_copy_X7_put rfl rfl rfl (by decide +kernel) ⟨Nat.le_of_ble_eq_true rfl, Nat.le_of_ble_eq_true rfl⟩) (hw_pV (hw_rc (q := (RX7, TX7, 3)) hK v122 rfl) hH9 hK hST hS (by decide) (fun q9 h9 => Or.inl (by rw [hs9 q9 h9]; exact h9)) ⟨v122, v124⟩) rfl rfl hl.1 rfl (lv_room (Nat.le_of_ble_eq_true rfl)) dX11_copy_134 ⟨Nat.le_of_ble_eq_true rfl, Nat.le_of_ble_eq_true rfl⟩) hS (hw_AWsub2 (by decide) (by decide) hs9 hS.1) (fun v H locs hp hz hk hS => ?_)
                                obtain ⟨f134, rfl, hH8, v135, v136, q137⟩ := hp
                                have hH := hw_HT.merge hH hH8 hs9 hk (by decide)
                                have vx := va_at.kept vx (hk _ (hw_lt vx) (hw_AWn2 hs9 (by decide) G0 (by decide) (hw_lt vx)))
                                have vq := va_at.kept vq (hk _ (hw_lt vq) (hw_AWn2 hs9 (by decide) (hw_RX_13 Rx) (by decide) (hw_lt vq)))
                                have hRK := hw_RK3.setG6T hRK (hw_i4 q32) q33 k120 R121 e123 v135 v136 hk
                                have hpt := q137
                                have hqi : x126.toNatClampNeg = (p4.toInt + x105.toInt).toNat := by rw [hw_tc]; omega
                                obtain ⟨x138, e139⟩ : ∃ y : Int32, y = y8_59 + 1 := ⟨_, rfl⟩
                                refine lv_iinc (v := x138) (lv' := [(8, .int x138), (9, .int x105), (7, .ref b30), (6, .ref b2), (0, .ref h0), (1, .int p1), (2, .int p2), (3, .int p3), (4, .int p4), (5, .int p5)]) hx hb dX11_copy_137 hl (k := 1) rfl (by rw [e139]; rfl) (by decide) rfl (fun ls hl => ?_)
                                have t140 : x138.toInt = y8_59.toInt + 1 := by rw [e139]; exact hw_add rfl rfl (by omega) (by omega)
                                refine lv_goto (tgt := 91) hx hb dX11_copy_140 (by decide) ?_
                                exact ih91 x138 (va_up tt60 p3.toNatClampNeg f134) (by first | omega | omega) ⟨by first | decide | omega, by first | decide | omega⟩ (by intro j hj; rw [va_up_ne _ _ hj]; exact inv91_0 j hj) (by intro h9 h8; rw [va_up_self, hpt (by omega) h9, hqi, show x138.toInt = y8_59.toInt + 1 from by omega]; refine hw_mvs_step (t := x105.toInt) (hw_tf inv91_0) (inv91_1 h9 h8) h8 (by omega) (by omega) (by omega) (by omega) (by omega) (by omega) (by omega) ?_; rw [← hsi]; exact hth (by omega)) (by omega) _ _ hH vx vq hRK hS _ (lv_sub hl [0, 2, 3, 4, 5, 6, 7, 8, 9] rfl)
                        exact L91 _ 0 tt (Nat.lt_succ_self _) ⟨by first | decide | omega, by first | decide | omega⟩ (by intro j _; rfl) (by intro _ _ u _; exact (hw_mvs_0 _ _ _ _ _ u).symm) (by have h3 : (0 : Int32).toInt = 0 := rfl; omega) _ _ hH vx vq hRK hS _ (lv_sub hl [0, 1, 2, 3, 4, 5, 6, 7, 8] rfl)
                      · exact absurd c58 (by decide)
                    · refine lv_if_ne (tgt := 88) hx hb dX11_copy_82 (by decide) (fun c141 => ?_) (fun c141 => ?_)
                      · exact absurd c141 (by decide)
                      · refine lv_bipush (v := (-13)) hx hb dX11_copy_85 (by decide) ?_
                        exact hw_iretM (v := (-13)) hx hb hr hlocks hQ hS rfl (Or.inr (Or.inr (Or.inr (Or.inl ⟨rfl, hH, (by first | exact hRK | (subst_vars; exact hRK)), vx, vq, (by first | rfl | trivial | assumption | omega | (intros; first | rfl | assumption | omega | (exfalso; omega))), (by first | rfl | trivial | assumption | omega | (intros; first | rfl | assumption | omega | (exfalso; omega))), (by first | rfl | trivial | assumption | omega | (intros; first | rfl | assumption | omega | (exfalso; omega))), (by first | rfl | trivial | assumption | omega | (intros; first | rfl | assumption | omega | (exfalso; omega))), (by first | rfl | trivial | assumption | omega | (intros; first | rfl | assumption | omega | (exfalso; omega))), (by first | rfl | trivial | assumption | omega | (intros; first | rfl | assumption | omega | (exfalso; omega)))⟩)))) dX11_copy_87
                · refine lv_if_eq (tgt := 85) hx hb dX11_copy_70 (by decide) (fun c142 => ?_) (fun c142 => ?_)
                  · refine lv_bipush (v := (-13)) hx hb dX11_copy_85 (by decide) ?_
                    exact hw_iretM (v := (-13)) hx hb hr hlocks hQ hS rfl (Or.inr (Or.inr (Or.inr (Or.inl ⟨rfl, hH, (by first | exact hRK | (subst_vars; exact hRK)), vx, vq, (by first | rfl | trivial | assumption | omega | (intros; first | rfl | assumption | omega | (exfalso; omega))), (by first | rfl | trivial | assumption | omega | (intros; first | rfl | assumption | omega | (exfalso; omega))), (by first | rfl | trivial | assumption | omega | (intros; first | rfl | assumption | omega | (exfalso; omega))), (by first | rfl | trivial | assumption | omega | (intros; first | rfl | assumption | omega | (exfalso; omega))), (by first | rfl | trivial | assumption | omega | (intros; first | rfl | assumption | omega | (exfalso; omega))), (by first | rfl | trivial | assumption | omega | (intros; first | rfl | assumption | omega | (exfalso; omega)))⟩)))) dX11_copy_87
                  · exact absurd c142 (by decide)
              · have b143 : (la p1.toNatClampNeg).toInt ≠ (la p3.toNatClampNeg).toInt := hw_ine c51
                refine lv_bipush (v := (-15)) hx hb dX11_copy_59 (by decide) ?_
                exact hw_iretM (v := (-15)) hx hb hr hlocks hQ hS rfl (Or.inr (Or.inr (Or.inl ⟨rfl, hH, (by first | exact hRK | (subst_vars; exact hRK)), vx, vq, (by first | rfl | trivial | assumption | omega | (intros; first | rfl | assumption | omega | (exfalso; omega))), (by first | rfl | trivial | assumption | omega | (intros; first | rfl | assumption | omega | (exfalso; omega))), (by first | rfl | trivial | assumption | omega | (intros; first | rfl | assumption | omega | (exfalso; omega))), (by first | rfl | trivial | assumption | omega | (intros; first | rfl | assumption | omega | (exfalso; omega))), (by first | rfl | trivial | assumption | omega | (intros; first | rfl | assumption | omega | (exfalso; omega)))⟩))) dX11_copy_61
            · exact absurd c50 (by decide)

set_option maxHeartbeats 4000000 in
set_option maxRecDepth 100000 in
theorem k3_X11_drop (l : Launch) (D : hw_D) (G : Nat → Nat) (h0 : Nat) (p1 : Int32) (sz : Nat) (th : Nat → Nat) (la : Nat → Int32) (sz9 : Nat → Int32) (tt : Nat → Nat → Int64) (rx : Nat → Nat) (pn_x pc_x ks_x sc_x : Int32) (fq : Nat → Option Nat) (G0 : G h0 = 1) (Rx : hw_RX G rx) (gsc_x : 0 ≤ sc_x.toInt ∧ sc_x.toInt ≤ 6) (qq : ∀ j, j < 4 → ∃ b, fq j = some b ∧ G b = 6) : Met l yX11_drop wsX11_drop ({ frames := 1, cells := 0, slots := 0, locals := 21 } : Room) (hw_PC D G [.ref h0, .int p1] sz (fun H => va_at D.1 vwCl (h0, .inr (10, hw_LX rx pn_x pc_x ks_x sc_x)) H ∧ va_at D.1 vwCl ((rx 13), .inl (D.2.1 7, 4, .inr (.inr (.inr (.inr fq))))) H ∧ hw_RK3 D G fq th la sz9 tt H)) (hw_QM (fun v H => (v = some (.int (-2)) ∧ hw_HT D G H ∧ hw_RK3 D G fq th la sz9 tt H ∧ va_at D.1 vwCl (h0, .inr (10, hw_LX rx pn_x pc_x ks_x sc_x)) H ∧ va_at D.1 vwCl ((rx 13), .inl (D.2.1 7, 4, .inr (.inr (.inr (.inr fq))))) H ∧ ((p1.toInt < 0 ∨ 3 < p1.toInt))) ∨ (v = some (.int (-11)) ∧ hw_HT D G H ∧ hw_RK3 D G fq th la sz9 tt H ∧ va_at D.1 vwCl (h0, .inr (10, hw_LX rx pn_x pc_x ks_x sc_x)) H ∧ va_at D.1 vwCl ((rx 13), .inl (D.2.1 7, 4, .inr (.inr (.inr (.inr fq))))) H ∧ ((0 ≤ p1.toInt ∧ p1.toInt ≤ 3)) ∧ (la p1.toNatClampNeg).toInt = -1) ∨ (∃ (r : Int32), v = some (.int r) ∧ hw_HT D G H ∧ hw_RK3 D G fq th (va_up la p1.toNatClampNeg (-1)) (va_up sz9 p1.toNatClampNeg (sz9 p1.toNatClampNeg)) tt H ∧ va_at D.1 vwCl (h0, .inr (10, hw_LX rx pn_x pc_x ks_x sc_x)) H ∧ va_at D.1 vwCl ((rx 13), .inl (D.2.1 7, 4, .inr (.inr (.inr (.inr fq))))) H ∧ ((0 ≤ p1.toInt ∧ p1.toInt ≤ 3)) ∧ (la p1.toNatClampNeg).toInt ≠ -1 ∧ r = sz9 p1.toNatClampNeg)) (hw_AW G [6] sz)) 0 0 (hw_AW G [6] sz) := by
  refine hw_met (cc := cX11_drop) (maxL := 3) (ret := (some .int)) (plainFor_of_name (by decide)) rfl (Nat.le_of_ble_eq_true rfl) ?_
  intro p e s m args below meth c QQ ls hsz hx hb hml hr hts hown hlocks hnm hH hK hST hF hQ hl
  subst hsz
  have hS : va_S (hw_AW G [6] s.heap.size) s.heap s.heap [] := va_S.rf
  obtain ⟨vx, vq, hRK⟩ := hF
  have hl : lv_has ls 3 [(0, .ref h0), (1, .int p1)] := hl
  have u_6 : ∀ w ∈ u_ws RX7 TX7 3, w.before args s = true := fun w hw => hts w ((by decide +kernel : ∀ w ∈ u_ws RX7 TX7 3, w ∈ wsX11_drop) w hw)
  have fp_313_6 : hw_FP s args m 313 6 1 false .int := ⟨RX11, "WardWalkers$Rack", RX7, TX7, 3, tyX7, u_6, hown, rfl, by decide, (hts (.fieldLink RX11 313 "WardWalkers$Rack" "lane" "I") (by decide +kernel)), (fun _ h9 => h9), tyX7_ok, nmX7, rfl, (fun h => by cases h), by decide +kernel⟩
  have fg_343_6 : hw_FG s args m 343 6 2 := ⟨RX11, "WardWalkers$Rack", RX7, TX7, 3, u_6, hown, rfl, by decide, (hts (.fieldLink RX11 343 "WardWalkers$Rack" "size" "I") (by decide +kernel)), (fun _ h9 => h9)⟩
  refine lv_aload_n hx hb dX11_drop_0 rfl (lv_at hl 0 rfl) ?_
  refine lv_iload_n hx hb dX11_drop_1 rfl (lv_at hl 1 rfl) ?_
  refine hw_cR (va_runV (As := [.int p1]) (rest := []) ⟨hx, hb, hml, hown, hts⟩ (k_X11_rackAt l D G h0 p1 _ rx pn_x pc_x ks_x sc_x fq G0 Rx ⟨by first | decide | omega, by first | decide | omega⟩ qq) (cwV 1 hts gX11_drop_X11_rackAt rfl rfl rfl (by decide +kernel) ⟨Nat.le_of_ble_eq_true rfl, Nat.le_of_ble_eq_true rfl⟩) (hw_pV (hw_rc (q := (RX11, TX11, 14)) hK vx rfl) hH hK hST hS (by decide) (fun _ h => Or.inl h) ⟨vx, vq⟩) rfl rfl hl.1 rfl (lv_room (Nat.le_of_ble_eq_true rfl)) dX11_drop_2 ⟨Nat.le_of_ble_eq_true rfl, Nat.le_of_ble_eq_true rfl⟩) (fun v hp => ?_)
  rcases hp with ⟨rfl, q1⟩ | ⟨b2, rfl, k3, q4, q5⟩
  · refine lv_astore_nN (lv' := [(2, .null), (0, .ref h0), (1, .int p1)]) hx hb dX11_drop_5 rfl hl (by decide) rfl (fun ls hl => ?_)
    refine lv_aload_nN hx hb dX11_drop_6 rfl (lv_at hl 0 rfl) ?_
    refine lv_ifnonnullN hx hb dX11_drop_7 ?_
    refine lv_bipush (v := (-2)) hx hb dX11_drop_10 (by decide) ?_
    exact hw_iretM (v := (-2)) hx hb hr hlocks hQ hS rfl (Or.inl ⟨rfl, hH, (by first | exact hRK | (subst_vars; exact hRK)), vx, vq, (by first | rfl | trivial | assumption | omega | (intros; first | rfl | assumption | omega | (exfalso; omega)))⟩) dX11_drop_12
  · obtain ⟨a6, r7, e8, k9, R10, v11, e12, v13⟩ := hRK.2.2 _ (hw_i4 q4)
    have e14 : a6 = b2 := Option.some.inj (e8.symm.trans q5)
    rw [e14] at k9 v11
    rw [← e12] at v13
    refine lv_astore_n (lv' := [(2, .ref b2), (0, .ref h0), (1, .int p1)]) hx hb dX11_drop_5 rfl hl (by decide) rfl (fun ls hl => ?_)
    refine lv_aload_n hx hb dX11_drop_6 rfl (lv_at hl 0 rfl) ?_
    refine lv_ifnonnull (tgt := 13) hx hb dX11_drop_7 (by decide) ?_
    refine lv_aload_n hx hb dX11_drop_13 rfl (lv_at hl 0 rfl) ?_
    refine hw_cR (va_runV (As := []) (rest := []) ⟨hx, hb, hml, hown, hts⟩ (k_X7_isMissing l D G b2 _ r7 (la p1.toNatClampNeg) (sz9 p1.toNatClampNeg) k3 R10) (cwV 0 hts gX11_drop_X7_isMissing rfl rfl rfl (by decide +kernel) ⟨Nat.le_of_ble_eq_true rfl, Nat.le_of_ble_eq_true rfl⟩) (hw_pV (hw_rc (q := (RX7, TX7, 3)) hK v11 rfl) hH hK hST hS (by decide) (fun _ h => Or.inl h) v11) rfl rfl hl.1 rfl (lv_room (Nat.le_of_ble_eq_true rfl)) dX11_drop_14 ⟨Nat.le_of_ble_eq_true rfl, Nat.le_of_ble_eq_true rfl⟩) (fun v hp => ?_)
    rcases hp with ⟨rfl, q15⟩ | ⟨rfl, q16⟩
    · refine lv_if_eq (tgt := 23) hx hb dX11_drop_17 (by decide) (fun c17 => ?_) (fun c17 => ?_)
      · exact absurd c17 (by decide)
      · refine lv_bipush (v := (-11)) hx hb dX11_drop_20 (by decide) ?_
        exact hw_iretM (v := (-11)) hx hb hr hlocks hQ hS rfl (Or.inr (Or.inl ⟨rfl, hH, (by first | exact hRK | (subst_vars; exact hRK)), vx, vq, (by first | rfl | trivial | assumption | omega | (intros; first | rfl | assumption | omega | (exfalso; omega))), (by first | rfl | trivial | assumption | omega | (intros; first | rfl | assumption | omega | (exfalso; omega)))⟩)) dX11_drop_22
    · refine lv_if_eq (tgt := 23) hx hb dX11_drop_17 (by decide) (fun c18 => ?_) (fun c18 => ?_)
      · refine lv_aload_n hx hb dX11_drop_23 rfl (lv_at hl 0 rfl) ?_
        refine lv_iconst (v := (-1)) hx hb dX11_drop_24 (by decide) ?_
        refine hw_put (v := .int (-1)) (fs' := hw_LK r7 (-1) (sz9 p1.toNatClampNeg)) hx hb fp_313_6 hK hH v11 (Nat.le_of_ble_eq_true rfl) rfl rfl rfl (fun _ => by rw [k3]; exact ⟨r7, (-1), (sz9 p1.toNatClampNeg), rfl, R10⟩) hS (hw_AWi k3 (by decide)) dX11_drop_25 (fun H locs hH v11 oq hz hS => ?_)
        have hRK := hw_RK3.setR hRK (hw_i4 q4) q5 k9 R10 e12 v11 (fun q9 h9 _ _ => oq q9 h9)
        have vx := va_at.kept vx (oq _ (hw_ne G0 k3 (by decide)))
        have vq := va_at.kept vq (oq _ (hw_ne (hw_RX_13 Rx) k3 (by decide)))
        have v13 := va_at.kept v13 (oq _ (hw_ne (hw_RK_0 R10) k3 (by decide)))
        refine lv_aload_n hx hb dX11_drop_28 rfl (lv_at hl 0 rfl) ?_
        refine hw_get hx hb fg_343_6 hK v11 rfl dX11_drop_29 ?_
        exact hw_iretM (v := (sz9 p1.toNatClampNeg)) hx hb hr hlocks hQ hS rfl (Or.inr (Or.inr (⟨(sz9 p1.toNatClampNeg), rfl, hH, (by first | exact hRK | (subst_vars; exact hRK)), vx, vq, (by first | rfl | trivial | assumption | omega | (intros; first | rfl | assumption | omega | (exfalso; omega))), (by first | rfl | trivial | assumption | omega | (intros; first | rfl | assumption | omega | (exfalso; omega))), (by first | rfl | trivial | assumption | omega | (intros; first | rfl | assumption | omega | (exfalso; omega)))⟩))) dX11_drop_32
      · exact absurd c18 (by decide)

set_option maxHeartbeats 4000000 in
set_option maxRecDepth 100000 in
theorem k3_X11_share (l : Launch) (D : hw_D) (G : Nat → Nat) (h0 : Nat) (p1 : Int32) (p2 : Int32) (sz : Nat) (th : Nat → Nat) (la : Nat → Int32) (sz9 : Nat → Int32) (tt : Nat → Nat → Int64) (rx : Nat → Nat) (pn_x pc_x ks_x sc_x : Int32) (fq : Nat → Option Nat) (G0 : G h0 = 1) (Rx : hw_RX G rx) (gsc_x : 0 ≤ sc_x.toInt ∧ sc_x.toInt ≤ 6) (qq : ∀ j, j < 4 → ∃ b, fq j = some b ∧ G b = 6) : Met l yX11_share wsX11_share ({ frames := 2, cells := 0, slots := 0, locals := 56 } : Room) (hw_PC D G [.ref h0, .int p1, .int p2] sz (fun H => va_at D.1 vwCl (h0, .inr (10, hw_LX rx pn_x pc_x ks_x sc_x)) H ∧ va_at D.1 vwCl ((rx 13), .inl (D.2.1 7, 4, .inr (.inr (.inr (.inr fq))))) H ∧ hw_RK3 D G fq th la sz9 tt H)) (hw_QR (fun v => (v = .long (-2) ∧ ((p1.toInt < 0 ∨ 3 < p1.toInt))) ∨ (v = .long (-3) ∧ ((0 ≤ p1.toInt ∧ p1.toInt ≤ 3)) ∧ (p2.toInt < 0 ∨ 1 < p2.toInt)) ∨ (v = .long (-11) ∧ ((0 ≤ p1.toInt ∧ p1.toInt ≤ 3)) ∧ (0 ≤ p2.toInt ∧ p2.toInt ≤ 1) ∧ (la p1.toNatClampNeg).toInt = -1) ∨ (v = .long (-12) ∧ ((0 ≤ p1.toInt ∧ p1.toInt ≤ 3)) ∧ (0 ≤ p2.toInt ∧ p2.toInt ≤ 1) ∧ (la p1.toNatClampNeg).toInt ≠ -1 ∧ (la p1.toNatClampNeg).toInt ≠ 2) ∨ (v = .long (-16) ∧ ((0 ≤ p1.toInt ∧ p1.toInt ≤ 3)) ∧ (0 ≤ p2.toInt ∧ p2.toInt ≤ 1) ∧ (la p1.toNatClampNeg).toInt = 2 ∧ (sz9 p1.toNatClampNeg).toInt = 0) ∨ (∃ (r : Int64), v = .long r ∧ ((0 ≤ p1.toInt ∧ p1.toInt ≤ 3)) ∧ (0 ≤ p2.toInt ∧ p2.toInt ≤ 1) ∧ (la p1.toNatClampNeg).toInt = 2 ∧ (sz9 p1.toNatClampNeg).toInt ≠ 0 ∧ ((∀ u, u < 24 → hw_i32 (tt p1.toNatClampNeg u)) → 0 < (sz9 p1.toNatClampNeg).toInt ∧ (sz9 p1.toNatClampNeg).toInt ≤ 24 → r = hw_share (tt p1.toNatClampNeg) (sz9 p1.toNatClampNeg) p2)))) 0 0 (fun _ => False) := by
  refine hw_met (cc := cX11_share) (maxL := 6) (ret := (some .long)) (plainFor_of_name (by decide)) rfl (Nat.le_of_ble_eq_true rfl) ?_
  intro p e s m args below meth c QQ ls hsz hx hb hml hr hts hown hlocks hnm hH hK hST hF hQ hl
  subst hsz
  have hS : va_S (hw_AW G [] s.heap.size) s.heap s.heap [] := va_S.rf
  obtain ⟨vx, vq, hRK⟩ := hF
  have hl : lv_has ls 6 [(0, .ref h0), (1, .int p1), (2, .int p2)] := hl
  have u_6 : ∀ w ∈ u_ws RX7 TX7 3, w.before args s = true := fun w hw => hts w ((by decide +kernel : ∀ w ∈ u_ws RX7 TX7 3, w ∈ wsX11_share) w hw)
  have fg_313_6 : hw_FG s args m 313 6 1 := ⟨RX11, "WardWalkers$Rack", RX7, TX7, 3, u_6, hown, rfl, by decide, (hts (.fieldLink RX11 313 "WardWalkers$Rack" "lane" "I") (by decide +kernel)), (fun _ h9 => h9)⟩
  have fg_343_6 : hw_FG s args m 343 6 2 := ⟨RX11, "WardWalkers$Rack", RX7, TX7, 3, u_6, hown, rfl, by decide, (hts (.fieldLink RX11 343 "WardWalkers$Rack" "size" "I") (by decide +kernel)), (fun _ h9 => h9)⟩
  refine lv_aload_n hx hb dX11_share_0 rfl (lv_at hl 0 rfl) ?_
  refine lv_iload_n hx hb dX11_share_1 rfl (lv_at hl 1 rfl) ?_
  refine hw_cR (va_runV (As := [.int p1]) (rest := []) ⟨hx, hb, hml, hown, hts⟩ (k_X11_rackAt l D G h0 p1 _ rx pn_x pc_x ks_x sc_x fq G0 Rx ⟨by first | decide | omega, by first | decide | omega⟩ qq) (cwV 1 hts gX11_share_X11_rackAt rfl rfl rfl (by decide +kernel) ⟨Nat.le_of_ble_eq_true rfl, Nat.le_of_ble_eq_true rfl⟩) (hw_pV (hw_rc (q := (RX11, TX11, 14)) hK vx rfl) hH hK hST hS (by decide) (fun _ h => Or.inl h) ⟨vx, vq⟩) rfl rfl hl.1 rfl (lv_room (Nat.le_of_ble_eq_true rfl)) dX11_share_2 ⟨Nat.le_of_ble_eq_true rfl, Nat.le_of_ble_eq_true rfl⟩) (fun v hp => ?_)
  rcases hp with ⟨rfl, q1⟩ | ⟨b2, rfl, k3, q4, q5⟩
  · refine lv_astore_nN (lv' := [(3, .null), (0, .ref h0), (1, .int p1), (2, .int p2)]) hx hb dX11_share_5 rfl hl (by decide) rfl (fun ls hl => ?_)
    refine lv_aload_nN hx hb dX11_share_6 rfl (lv_at hl 0 rfl) ?_
    refine lv_ifnonnullN hx hb dX11_share_7 ?_
    refine lv_ldc2 (v := (-2)) hx hb hown (hts (.constantLong RX11 323 (-2)) (by decide +kernel)) dX11_share_10 ?_
    exact hw_lretR (v := (-2)) hx hb hr hlocks hQ (Or.inl ⟨rfl, (by first | rfl | trivial | assumption | omega | (intros; first | rfl | assumption | omega | (exfalso; omega)))⟩) dX11_share_13
  · obtain ⟨a6, r7, e8, k9, R10, v11, e12, v13⟩ := hRK.2.2 _ (hw_i4 q4)
    have e14 : a6 = b2 := Option.some.inj (e8.symm.trans q5)
    rw [e14] at k9 v11
    rw [← e12] at v13
    refine lv_astore_n (lv' := [(3, .ref b2), (0, .ref h0), (1, .int p1), (2, .int p2)]) hx hb dX11_share_5 rfl hl (by decide) rfl (fun ls hl => ?_)
    refine lv_aload_n hx hb dX11_share_6 rfl (lv_at hl 0 rfl) ?_
    refine lv_ifnonnull (tgt := 14) hx hb dX11_share_7 (by decide) ?_
    refine lv_iload_n hx hb dX11_share_14 rfl (lv_at hl 3 rfl) ?_
    refine lv_if_lt (tgt := 23) hx hb dX11_share_15 (by decide) (fun c15 => ?_) (fun c15 => ?_)
    · have b16 : p2.toInt < 0 := hw_ilt c15
      refine lv_ldc2 (v := (-3)) hx hb hown (hts (.constantLong RX11 346 (-3)) (by decide +kernel)) dX11_share_23 ?_
      exact hw_lretR (v := (-3)) hx hb hr hlocks hQ (Or.inr (Or.inl ⟨rfl, (by first | rfl | trivial | assumption | omega | (intros; first | rfl | assumption | omega | (exfalso; omega))), (by first | rfl | trivial | assumption | omega | (intros; first | rfl | assumption | omega | (exfalso; omega)))⟩)) dX11_share_26
    · have b17 : 0 ≤ p2.toInt := hw_inlt c15
      refine lv_iload_n hx hb dX11_share_18 rfl (lv_at hl 3 rfl) ?_
      refine lv_iconst (v := 1) hx hb dX11_share_19 (by decide) ?_
      refine lv_icmp_le (tgt := 27) hx hb dX11_share_20 (by decide) (fun c18 => ?_) (fun c18 => ?_)
      · have b19 : p2.toInt ≤ 1 := hw_ile c18
        refine lv_aload_n hx hb dX11_share_27 rfl (lv_at hl 0 rfl) ?_
        refine hw_cR (va_runV (As := []) (rest := []) ⟨hx, hb, hml, hown, hts⟩ (k_X7_isMissing l D G b2 _ r7 (la p1.toNatClampNeg) (sz9 p1.toNatClampNeg) k3 R10) (cwV 0 hts gX11_share_X7_isMissing rfl rfl rfl (by decide +kernel) ⟨Nat.le_of_ble_eq_true rfl, Nat.le_of_ble_eq_true rfl⟩) (hw_pV (hw_rc (q := (RX7, TX7, 3)) hK v11 rfl) hH hK hST hS (by decide) (fun _ h => Or.inl h) v11) rfl rfl hl.1 rfl (lv_room (Nat.le_of_ble_eq_true rfl)) dX11_share_28 ⟨Nat.le_of_ble_eq_true rfl, Nat.le_of_ble_eq_true rfl⟩) (fun v hp => ?_)
        rcases hp with ⟨rfl, q20⟩ | ⟨rfl, q21⟩
        · refine lv_if_eq (tgt := 38) hx hb dX11_share_31 (by decide) (fun c22 => ?_) (fun c22 => ?_)
          · exact absurd c22 (by decide)
          · refine lv_ldc2 (v := (-11)) hx hb hown (hts (.constantLong RX11 325 (-11)) (by decide +kernel)) dX11_share_34 ?_
            exact hw_lretR (v := (-11)) hx hb hr hlocks hQ (Or.inr (Or.inr (Or.inl ⟨rfl, (by first | rfl | trivial | assumption | omega | (intros; first | rfl | assumption | omega | (exfalso; omega))), (by first | rfl | trivial | assumption | omega | (intros; first | rfl | assumption | omega | (exfalso; omega))), (by first | rfl | trivial | assumption | omega | (intros; first | rfl | assumption | omega | (exfalso; omega)))⟩))) dX11_share_37
        · refine lv_if_eq (tgt := 38) hx hb dX11_share_31 (by decide) (fun c23 => ?_) (fun c23 => ?_)
          · refine lv_aload_n hx hb dX11_share_38 rfl (lv_at hl 0 rfl) ?_
            refine hw_get hx hb fg_313_6 hK v11 rfl dX11_share_39 ?_
            refine lv_iconst (v := 2) hx hb dX11_share_42 (by decide) ?_
            refine lv_icmp_eq (tgt := 50) hx hb dX11_share_43 (by decide) (fun c24 => ?_) (fun c24 => ?_)
            · have b25 : (la p1.toNatClampNeg).toInt = 2 := hw_ieq c24
              refine lv_aload_n hx hb dX11_share_50 rfl (lv_at hl 0 rfl) ?_
              refine hw_get hx hb fg_343_6 hK v11 rfl dX11_share_51 ?_
              refine lv_if_ne (tgt := 61) hx hb dX11_share_54 (by decide) (fun c26 => ?_) (fun c26 => ?_)
              · have b27 : (sz9 p1.toNatClampNeg).toInt ≠ 0 := hw_ine c26
                refine lv_aload_n hx hb dX11_share_61 rfl (lv_at hl 0 rfl) ?_
                refine hw_cR (va_runV (As := []) (rest := []) ⟨hx, hb, hml, hown, hts⟩ (k3_X7_together l D G b2 _ r7 (la p1.toNatClampNeg) (sz9 p1.toNatClampNeg) (tt p1.toNatClampNeg) k3 R10) (cwV 0 hts gX11_share_X7_together rfl rfl rfl (by decide +kernel) ⟨Nat.le_of_ble_eq_true rfl, Nat.le_of_ble_eq_true rfl⟩) (hw_pV (hw_rc (q := (RX7, TX7, 3)) hK v11 rfl) hH hK hST hS (by decide) (fun _ h => Or.inl h) ⟨v11, v13⟩) rfl rfl hl.1 rfl (lv_room (Nat.le_of_ble_eq_true rfl)) dX11_share_62 ⟨Nat.le_of_ble_eq_true rfl, Nat.le_of_ble_eq_true rfl⟩) (fun v hp => ?_)
                obtain ⟨x28, rfl, q29⟩ := hp
                have hsm := q29
                refine lv_aload_n hx hb dX11_share_65 rfl (lv_at hl 0 rfl) ?_
                refine hw_get hx hb fg_343_6 hK v11 rfl dX11_share_66 ?_
                refine lv_i2l hx hb dX11_share_69 rfl ?_
                refine lv_topl (fun x30 e31 => ?_)
                have hsl := e31
                refine lv_iload_n hx hb dX11_share_70 rfl (lv_at hl 3 rfl) ?_
                refine hw_cR (va_runS (As := [.long x28, .long x30, .int p2]) (rest := []) ⟨hx, hb, hml, hown, hts⟩ (k3_X11_lowest l D G x28 x30 p2 _) (va_cwS 3 hts gX11_share_X11_lowest rfl rfl rfl (by decide +kernel) ⟨Nat.le_of_ble_eq_true rfl, Nat.le_of_ble_eq_true rfl⟩) (hw_pS hH hK hST hS (by decide) (fun _ h => Or.inl h) trivial) rfl rfl hl.1 rfl (lv_room (Nat.le_of_ble_eq_true rfl)) dX11_share_71 ⟨Nat.le_of_ble_eq_true rfl, Nat.le_of_ble_eq_true rfl⟩) (fun v hp => ?_)
                obtain ⟨x32, rfl, q33⟩ := hp
                have hlw := q33
                refine lv_lstore (lv' := [(4, .long x32), (3, .ref b2), (0, .ref h0), (1, .int p1), (2, .int p2)]) hx hb dX11_share_74 hl (by decide) rfl (fun ls hl => ?_)
                refine lv_iload_n hx hb dX11_share_76 rfl (lv_at hl 4 rfl) ?_
                refine lv_if_ne (tgt := 89) hx hb dX11_share_77 (by decide) (fun c34 => ?_) (fun c34 => ?_)
                · have b35 : p2.toInt ≠ 0 := hw_ine c34
                  refine lv_lload hx hb dX11_share_89 (lv_at hl 0 rfl) ?_
                  exact hw_lretR (v := x32) hx hb hr hlocks hQ (Or.inr (Or.inr (Or.inr (Or.inr (Or.inr (⟨x32, rfl, (by first | rfl | trivial | assumption | omega | (intros; first | rfl | assumption | omega | (exfalso; omega))), (by first | rfl | trivial | assumption | omega | (intros; first | rfl | assumption | omega | (exfalso; omega))), (by first | rfl | trivial | assumption | omega | (intros; first | rfl | assumption | omega | (exfalso; omega))), (by first | rfl | trivial | assumption | omega | (intros; first | rfl | assumption | omega | (exfalso; omega))), (by intro h9 h8; have h7 := hw_share_of hsm hsl hlw h9 h8; first | (unfold hw_share; rw [if_pos (by omega), ← h7]; exact None) | (unfold hw_share; rw [if_neg (by omega)]; exact h7))⟩)))))) dX11_share_91
                · have b36 : p2.toInt = 0 := hw_ieq c34
                  refine lv_lload hx hb dX11_share_80 (lv_at hl 0 rfl) ?_
                  refine lv_ldc2 (v := 100000000000) hx hb hown (hts (.constantLong RX11 356 (100000000000)) (by decide +kernel)) dX11_share_82 ?_
                  refine lv_ladd hx hb dX11_share_85  ?_
                  refine lv_topl (fun x37 e38 => ?_)
                  refine lv_goto (tgt := 91) hx hb dX11_share_86 (by decide) ?_
                  exact hw_lretR (v := x37) hx hb hr hlocks hQ (Or.inr (Or.inr (Or.inr (Or.inr (Or.inr (⟨x37, rfl, (by first | rfl | trivial | assumption | omega | (intros; first | rfl | assumption | omega | (exfalso; omega))), (by first | rfl | trivial | assumption | omega | (intros; first | rfl | assumption | omega | (exfalso; omega))), (by first | rfl | trivial | assumption | omega | (intros; first | rfl | assumption | omega | (exfalso; omega))), (by first | rfl | trivial | assumption | omega | (intros; first | rfl | assumption | omega | (exfalso; omega))), (by intro h9 h8; have h7 := hw_share_of hsm hsl hlw h9 h8; first | (unfold hw_share; rw [if_pos (by omega), ← h7]; exact e38) | (unfold hw_share; rw [if_neg (by omega)]; exact h7))⟩)))))) dX11_share_91
              · have b39 : (sz9 p1.toNatClampNeg).toInt = 0 := hw_ieq c26
                refine lv_ldc2 (v := (-16)) hx hb hown (hts (.constantLong RX11 350 (-16)) (by decide +kernel)) dX11_share_57 ?_
                exact hw_lretR (v := (-16)) hx hb hr hlocks hQ (Or.inr (Or.inr (Or.inr (Or.inr (Or.inl ⟨rfl, (by first | rfl | trivial | assumption | omega | (intros; first | rfl | assumption | omega | (exfalso; omega))), (by first | rfl | trivial | assumption | omega | (intros; first | rfl | assumption | omega | (exfalso; omega))), (by first | rfl | trivial | assumption | omega | (intros; first | rfl | assumption | omega | (exfalso; omega))), (by first | rfl | trivial | assumption | omega | (intros; first | rfl | assumption | omega | (exfalso; omega)))⟩))))) dX11_share_60
            · have b40 : (la p1.toNatClampNeg).toInt ≠ 2 := hw_ine c24
              refine lv_ldc2 (v := (-12)) hx hb hown (hts (.constantLong RX11 348 (-12)) (by decide +kernel)) dX11_share_46 ?_
              exact hw_lretR (v := (-12)) hx hb hr hlocks hQ (Or.inr (Or.inr (Or.inr (Or.inl ⟨rfl, (by first | rfl | trivial | assumption | omega | (intros; first | rfl | assumption | omega | (exfalso; omega))), (by first | rfl | trivial | assumption | omega | (intros; first | rfl | assumption | omega | (exfalso; omega))), (by first | rfl | trivial | assumption | omega | (intros; first | rfl | assumption | omega | (exfalso; omega))), (by first | rfl | trivial | assumption | omega | (intros; first | rfl | assumption | omega | (exfalso; omega)))⟩)))) dX11_share_49
          · exact absurd c23 (by decide)
      · have b41 : 1 < p2.toInt := hw_inle c18
        refine lv_ldc2 (v := (-3)) hx hb hown (hts (.constantLong RX11 346 (-3)) (by decide +kernel)) dX11_share_23 ?_
        exact hw_lretR (v := (-3)) hx hb hr hlocks hQ (Or.inr (Or.inl ⟨rfl, (by first | rfl | trivial | assumption | omega | (intros; first | rfl | assumption | omega | (exfalso; omega))), (by first | rfl | trivial | assumption | omega | (intros; first | rfl | assumption | omega | (exfalso; omega)))⟩)) dX11_share_26

set_option maxHeartbeats 4000000 in
set_option maxRecDepth 100000 in
theorem k3_X11_film (l : Launch) (D : hw_D) (G : Nat → Nat) (h0 : Nat) (p1 : Int32) (p2 : Int32) (p3 : Int32) (sz : Nat) (th : Nat → Nat) (la : Nat → Int32) (sz9 : Nat → Int32) (tt : Nat → Nat → Int64) (rx : Nat → Nat) (pn_x pc_x ks_x sc_x : Int32) (fq : Nat → Option Nat) (rc : Nat → Nat) (kc_c lc_c wc_c dk_c : Int32) (G0 : G h0 = 1) (Rx : hw_RX G rx) (gsc_x : 0 ≤ sc_x.toInt ∧ sc_x.toInt ≤ 6) (qq : ∀ j, j < 4 → ∃ b, fq j = some b ∧ G b = 6) (Rc : hw_RC G rc) (gkc_c : 0 ≤ kc_c.toInt ∧ kc_c.toInt ≤ 7) (glc_c : 0 ≤ lc_c.toInt ∧ lc_c.toInt ≤ 7) (gwc_c : 0 ≤ wc_c.toInt ∧ wc_c.toInt ≤ 3) : Met l yX11_film wsX11_film ({ frames := 5, cells := 0, slots := 0, locals := 114 } : Room) (hw_PC D G [.ref h0, .int p1, .int p2, .int p3] sz (fun H => va_at D.1 vwCl (h0, .inr (10, hw_LX rx pn_x pc_x ks_x sc_x)) H ∧ va_at D.1 vwCl ((rx 13), .inl (D.2.1 7, 4, .inr (.inr (.inr (.inr fq))))) H ∧ va_at D.1 vwCl ((rx 0), .inr (1, hw_LC rc kc_c lc_c wc_c dk_c)) H ∧ hw_RK3 D G fq th la sz9 tt H)) (hw_QM (fun v H => ∃ (r : Int32) (tt2 : Nat → Nat → Int64), v = some (.int r) ∧ hw_HT D G H ∧ hw_RK3 D G fq th la sz9 tt2 H ∧ va_at D.1 vwCl (h0, .inr (10, hw_LX rx pn_x pc_x ks_x sc_x)) H ∧ va_at D.1 vwCl ((rx 13), .inl (D.2.1 7, 4, .inr (.inr (.inr (.inr fq))))) H ∧ va_at D.1 vwCl ((rx 0), .inr (1, hw_LC rc kc_c lc_c wc_c dk_c)) H ∧ (∀ j, j < 4 → (la j).toInt = 2 → tt2 j = tt j)) (hw_AW G [19] sz)) 0 0 (hw_AW G [19] sz) := by
  refine hw_met (cc := cX11_film) (maxL := 8) (ret := (some .int)) (plainFor_of_name (by decide)) rfl (Nat.le_of_ble_eq_true rfl) ?_
  intro p e s m args below meth c QQ ls hsz hx hb hml hr hts hown hlocks hnm hH hK hST hF hQ hl
  subst hsz
  have hS : va_S (hw_AW G [19] s.heap.size) s.heap s.heap [] := va_S.rf
  obtain ⟨vx, vq, vc, hRK⟩ := hF
  have hl : lv_has ls 8 [(0, .ref h0), (1, .int p1), (2, .int p2), (3, .int p3)] := hl
  have u_10 : ∀ w ∈ u_ws RX11 TX11 14, w.before args s = true := fun w hw => hts w ((by decide +kernel : ∀ w ∈ u_ws RX11 TX11 14, w ∈ wsX11_film) w hw)
  have fg_10_10 : hw_FG s args m 10 10 0 := ⟨RX11, "WardWalkers", RX11, TX11, 14, u_10, hown, rfl, by decide, (hts (.fieldLink RX11 10 "WardWalkers" "country" "LWardWalkers$Country;") (by decide +kernel)), (fun _ h9 => h9)⟩
  have u_6 : ∀ w ∈ u_ws RX7 TX7 3, w.before args s = true := fun w hw => hts w ((by decide +kernel : ∀ w ∈ u_ws RX7 TX7 3, w ∈ wsX11_film) w hw)
  have fg_313_6 : hw_FG s args m 313 6 1 := ⟨RX11, "WardWalkers$Rack", RX7, TX7, 3, u_6, hown, rfl, by decide, (hts (.fieldLink RX11 313 "WardWalkers$Rack" "lane" "I") (by decide +kernel)), (fun _ h9 => h9)⟩
  have u_1 : ∀ w ∈ u_ws RX1 TX1 7, w.before args s = true := fun w hw => hts w ((by decide +kernel : ∀ w ∈ u_ws RX1 TX1 7, w ∈ wsX11_film) w hw)
  have fg_256_1 : hw_FG s args m 256 1 3 := ⟨RX11, "WardWalkers$Country", RX1, TX1, 7, u_1, hown, rfl, by decide, (hts (.fieldLink RX11 256 "WardWalkers$Country" "lockCount" "I") (by decide +kernel)), (fun _ h9 => h9)⟩
  have fg_26_10 : hw_FG s args m 26 10 2 := ⟨RX11, "WardWalkers", RX11, TX11, 14, u_10, hown, rfl, by decide, (hts (.fieldLink RX11 26 "WardWalkers" "now" "LWardWalkers$Standing;") (by decide +kernel)), (fun _ h9 => h9)⟩
  refine lv_aload_n hx hb dX11_film_0 rfl (lv_at hl 0 rfl) ?_
  refine hw_get hx hb fg_10_10 hK vx rfl dX11_film_1 ?_
  refine lv_iload_n hx hb dX11_film_4 rfl (lv_at hl 1 rfl) ?_
  refine hw_cR (va_runV (As := [.int p1]) (rest := []) ⟨hx, hb, hml, hown, hts⟩ (k_X1_keyAt l D G (rx 0) p1 _ rc kc_c lc_c wc_c dk_c (hw_RX_0 Rx) Rc ⟨by first | decide | omega, by first | decide | omega⟩ ⟨by first | decide | omega, by first | decide | omega⟩ ⟨by first | decide | omega, by first | decide | omega⟩) (cwV 1 hts gX11_film_X1_keyAt rfl rfl rfl (by decide +kernel) ⟨Nat.le_of_ble_eq_true rfl, Nat.le_of_ble_eq_true rfl⟩) (hw_pV (hw_rc (q := (RX1, TX1, 7)) hK vc rfl) hH hK hST hS (by decide) (fun _ h => Or.inl h) vc) rfl rfl hl.1 rfl (lv_room (Nat.le_of_ble_eq_true rfl)) dX11_film_5 ⟨Nat.le_of_ble_eq_true rfl, Nat.le_of_ble_eq_true rfl⟩) (fun v hp => ?_)
  rcases hp with rfl | ⟨b1, rfl, k2, q3⟩
  · refine lv_astoreN (lv' := [(4, .null), (0, .ref h0), (1, .int p1), (2, .int p2), (3, .int p3)]) hx hb dX11_film_8 hl (by decide) rfl (fun ls hl => ?_)
    refine lv_aload_n hx hb dX11_film_10 rfl (lv_at hl 1 rfl) ?_
    refine lv_iload_n hx hb dX11_film_11 rfl (lv_at hl 3 rfl) ?_
    refine hw_cR (va_runV (As := [.int p2]) (rest := []) ⟨hx, hb, hml, hown, hts⟩ (k_X11_rackAt l D G h0 p2 _ rx pn_x pc_x ks_x sc_x fq G0 Rx ⟨by first | decide | omega, by first | decide | omega⟩ qq) (cwV 1 hts gX11_film_X11_rackAt rfl rfl rfl (by decide +kernel) ⟨Nat.le_of_ble_eq_true rfl, Nat.le_of_ble_eq_true rfl⟩) (hw_pV (hw_rc (q := (RX11, TX11, 14)) hK vx rfl) hH hK hST hS (by decide) (fun _ h => Or.inl h) ⟨vx, vq⟩) rfl rfl hl.1 rfl (lv_room (Nat.le_of_ble_eq_true rfl)) dX11_film_12 ⟨Nat.le_of_ble_eq_true rfl, Nat.le_of_ble_eq_true rfl⟩) (fun v hp => ?_)
    rcases hp with ⟨rfl, q4⟩ | ⟨b5, rfl, k6, q7, q8⟩
    · refine lv_astoreN (lv' := [(5, .null), (4, .null), (0, .ref h0), (1, .int p1), (2, .int p2), (3, .int p3)]) hx hb dX11_film_15 hl (by decide) rfl (fun ls hl => ?_)
      refine lv_aloadN hx hb dX11_film_17 (lv_at hl 1 rfl) ?_
      refine lv_ifnullN (tgt := 27) hx hb dX11_film_19 (by decide) ?_
      refine lv_bipush (v := (-2)) hx hb dX11_film_27 (by decide) ?_
      exact hw_iretM (v := (-2)) hx hb hr hlocks hQ hS rfl (⟨(-2), tt, rfl, hH, (by first | exact hRK | (subst_vars; exact hRK)), vx, vq, vc, (by intro j hj h9; first | rfl | exact inv91_0 j (fun e => by rw [e] at h9; omega))⟩) dX11_film_29
    · obtain ⟨a9, r10, e11, k12, R13, v14, e15, v16⟩ := hRK.2.2 _ (hw_i4 q7)
      have e17 : a9 = b5 := Option.some.inj (e11.symm.trans q8)
      rw [e17] at k12 v14
      rw [← e15] at v16
      refine lv_astore (lv' := [(5, .ref b5), (4, .null), (0, .ref h0), (1, .int p1), (2, .int p2), (3, .int p3)]) hx hb dX11_film_15 hl (by decide) rfl (fun ls hl => ?_)
      refine lv_aloadN hx hb dX11_film_17 (lv_at hl 1 rfl) ?_
      refine lv_ifnullN (tgt := 27) hx hb dX11_film_19 (by decide) ?_
      refine lv_bipush (v := (-2)) hx hb dX11_film_27 (by decide) ?_
      exact hw_iretM (v := (-2)) hx hb hr hlocks hQ hS rfl (⟨(-2), tt, rfl, hH, (by first | exact hRK | (subst_vars; exact hRK)), vx, vq, vc, (by intro j hj h9; first | rfl | exact inv91_0 j (fun e => by rw [e] at h9; omega))⟩) dX11_film_29
  · refine lv_astore (lv' := [(4, .ref b1), (0, .ref h0), (1, .int p1), (2, .int p2), (3, .int p3)]) hx hb dX11_film_8 hl (by decide) rfl (fun ls hl => ?_)
    refine lv_aload_n hx hb dX11_film_10 rfl (lv_at hl 1 rfl) ?_
    refine lv_iload_n hx hb dX11_film_11 rfl (lv_at hl 3 rfl) ?_
    refine hw_cR (va_runV (As := [.int p2]) (rest := []) ⟨hx, hb, hml, hown, hts⟩ (k_X11_rackAt l D G h0 p2 _ rx pn_x pc_x ks_x sc_x fq G0 Rx ⟨by first | decide | omega, by first | decide | omega⟩ qq) (cwV 1 hts gX11_film_X11_rackAt rfl rfl rfl (by decide +kernel) ⟨Nat.le_of_ble_eq_true rfl, Nat.le_of_ble_eq_true rfl⟩) (hw_pV (hw_rc (q := (RX11, TX11, 14)) hK vx rfl) hH hK hST hS (by decide) (fun _ h => Or.inl h) ⟨vx, vq⟩) rfl rfl hl.1 rfl (lv_room (Nat.le_of_ble_eq_true rfl)) dX11_film_12 ⟨Nat.le_of_ble_eq_true rfl, Nat.le_of_ble_eq_true rfl⟩) (fun v hp => ?_)
    rcases hp with ⟨rfl, q18⟩ | ⟨b19, rfl, k20, q21, q22⟩
    · refine lv_astoreN (lv' := [(5, .null), (4, .ref b1), (0, .ref h0), (1, .int p1), (2, .int p2), (3, .int p3)]) hx hb dX11_film_15 hl (by decide) rfl (fun ls hl => ?_)
      refine lv_aload hx hb dX11_film_17 (lv_at hl 1 rfl) ?_
      refine lv_ifnull hx hb dX11_film_19 ?_
      refine lv_aloadN hx hb dX11_film_22 (lv_at hl 0 rfl) ?_
      refine lv_ifnonnullN hx hb dX11_film_24 ?_
      refine lv_bipush (v := (-2)) hx hb dX11_film_27 (by decide) ?_
      exact hw_iretM (v := (-2)) hx hb hr hlocks hQ hS rfl (⟨(-2), tt, rfl, hH, (by first | exact hRK | (subst_vars; exact hRK)), vx, vq, vc, (by intro j hj h9; first | rfl | exact inv91_0 j (fun e => by rw [e] at h9; omega))⟩) dX11_film_29
    · obtain ⟨a23, r24, e25, k26, R27, v28, e29, v30⟩ := hRK.2.2 _ (hw_i4 q21)
      have e31 : a23 = b19 := Option.some.inj (e25.symm.trans q22)
      rw [e31] at k26 v28
      rw [← e29] at v30
      refine lv_astore (lv' := [(5, .ref b19), (4, .ref b1), (0, .ref h0), (1, .int p1), (2, .int p2), (3, .int p3)]) hx hb dX11_film_15 hl (by decide) rfl (fun ls hl => ?_)
      refine lv_aload hx hb dX11_film_17 (lv_at hl 1 rfl) ?_
      refine lv_ifnull hx hb dX11_film_19 ?_
      refine lv_aload hx hb dX11_film_22 (lv_at hl 0 rfl) ?_
      refine lv_ifnonnull (tgt := 30) hx hb dX11_film_24 (by decide) ?_
      refine lv_aload hx hb dX11_film_30 (lv_at hl 0 rfl) ?_
      refine hw_cR (va_runV (As := []) (rest := []) ⟨hx, hb, hml, hown, hts⟩ (k_X7_isMissing l D G b19 _ r24 (la p2.toNatClampNeg) (sz9 p2.toNatClampNeg) k20 R27) (cwV 0 hts gX11_film_X7_isMissing rfl rfl rfl (by decide +kernel) ⟨Nat.le_of_ble_eq_true rfl, Nat.le_of_ble_eq_true rfl⟩) (hw_pV (hw_rc (q := (RX7, TX7, 3)) hK v28 rfl) hH hK hST hS (by decide) (fun _ h => Or.inl h) v28) rfl rfl hl.1 rfl (lv_room (Nat.le_of_ble_eq_true rfl)) dX11_film_32 ⟨Nat.le_of_ble_eq_true rfl, Nat.le_of_ble_eq_true rfl⟩) (fun v hp => ?_)
      rcases hp with ⟨rfl, q32⟩ | ⟨rfl, q33⟩
      · refine lv_if_eq (tgt := 41) hx hb dX11_film_35 (by decide) (fun c34 => ?_) (fun c34 => ?_)
        · exact absurd c34 (by decide)
        · refine lv_bipush (v := (-11)) hx hb dX11_film_38 (by decide) ?_
          exact hw_iretM (v := (-11)) hx hb hr hlocks hQ hS rfl (⟨(-11), tt, rfl, hH, (by first | exact hRK | (subst_vars; exact hRK)), vx, vq, vc, (by intro j hj h9; first | rfl | exact inv91_0 j (fun e => by rw [e] at h9; omega))⟩) dX11_film_40
      · refine lv_if_eq (tgt := 41) hx hb dX11_film_35 (by decide) (fun c35 => ?_) (fun c35 => ?_)
        · refine lv_aload hx hb dX11_film_41 (lv_at hl 0 rfl) ?_
          refine hw_get hx hb fg_313_6 hK v28 rfl dX11_film_43 ?_
          refine lv_iconst (v := 4) hx hb dX11_film_46 (by decide) ?_
          refine lv_icmp_eq (tgt := 53) hx hb dX11_film_47 (by decide) (fun c36 => ?_) (fun c36 => ?_)
          · have b37 : (la p2.toNatClampNeg).toInt = 4 := hw_ieq c36
            refine lv_aload hx hb dX11_film_53 (lv_at hl 0 rfl) ?_
            refine lv_iload_n hx hb dX11_film_55 rfl (lv_at hl 5 rfl) ?_
            refine lv_aload_n hx hb dX11_film_56 rfl (lv_at hl 2 rfl) ?_
            refine hw_get hx hb fg_10_10 hK vx rfl dX11_film_57 ?_
            refine hw_get hx hb fg_256_1 hK vc rfl dX11_film_60 ?_
            refine hw_cR (va_runV (As := [.int p3, .int lc_c]) (rest := []) ⟨hx, hb, hml, hown, hts⟩ (k_X7_spans l D G b19 p3 lc_c _ r24 (la p2.toNatClampNeg) (sz9 p2.toNatClampNeg) k20 R27) (cwV 2 hts gX11_film_X7_spans rfl rfl rfl (by decide +kernel) ⟨Nat.le_of_ble_eq_true rfl, Nat.le_of_ble_eq_true rfl⟩) (hw_pV (hw_rc (q := (RX7, TX7, 3)) hK v28 rfl) hH hK hST hS (by decide) (fun _ h => Or.inl h) v28) rfl rfl hl.1 rfl (lv_room (Nat.le_of_ble_eq_true rfl)) dX11_film_63 ⟨Nat.le_of_ble_eq_true rfl, Nat.le_of_ble_eq_true rfl⟩) (fun v hp => ?_)
            rcases hp with ⟨rfl, q38⟩ | ⟨rfl, q39⟩
            · refine lv_if_ne (tgt := 72) hx hb dX11_film_66 (by decide) (fun c40 => ?_) (fun c40 => ?_)
              · refine lv_aload_n hx hb dX11_film_72 rfl (lv_at hl 2 rfl) ?_
                refine lv_aload hx hb dX11_film_73 (lv_at hl 1 rfl) ?_
                refine lv_aload_n hx hb dX11_film_75 rfl (lv_at hl 2 rfl) ?_
                refine hw_get hx hb fg_26_10 hK vx rfl dX11_film_76 ?_
                refine lv_iload_n hx hb dX11_film_79 rfl (lv_at hl 3 rfl) ?_
                obtain ⟨r41, td_42, fd_43, os_44, v45, R46⟩ := hH.oS (hw_RX_2 Rx)
                refine hw_cR (va_runV (As := [.int p1]) (rest := [.ref b1, .ref h0]) ⟨hx, hb, hml, hown, hts⟩ (k_X9_bentOf l D G (rx 2) p1 _ (hw_RX_2 Rx)) (cwV 1 hts gX11_film_X9_bentOf rfl rfl rfl (by decide +kernel) ⟨Nat.le_of_ble_eq_true rfl, Nat.le_of_ble_eq_true rfl⟩) (hw_pV (hw_rc (q := (RX9, TX9, 7)) hK v45 rfl) hH hK hST hS (by decide) (fun _ h => Or.inl h) trivial) rfl rfl hl.1 rfl (lv_room (Nat.le_of_ble_eq_true rfl)) dX11_film_80 ⟨Nat.le_of_ble_eq_true rfl, Nat.le_of_ble_eq_true rfl⟩) (fun v hp => ?_)
                obtain ⟨x47, rfl⟩ := hp
                refine hw_cR (va_runV (As := [.ref b1, .int x47]) (rest := []) ⟨hx, hb, hml, hown, hts⟩ (k_X11_locksFor l D G h0 b1 x47 _ G0 k2) (cwV 2 hts gX11_film_X11_locksFor rfl rfl rfl (by decide +kernel) ⟨Nat.le_of_ble_eq_true rfl, Nat.le_of_ble_eq_true rfl⟩) (hw_pV (hw_rc (q := (RX11, TX11, 14)) hK vx rfl) hH hK hST hS (by decide) (fun _ h => Or.inl h) trivial) rfl rfl hl.1 rfl (lv_room (Nat.le_of_ble_eq_true rfl)) dX11_film_83 ⟨Nat.le_of_ble_eq_true rfl, Nat.le_of_ble_eq_true rfl⟩) (fun v hp => ?_)
                obtain ⟨x48, rfl⟩ := hp
                refine lv_istore (lv' := [(6, .int x48), (5, .ref b19), (4, .ref b1), (0, .ref h0), (1, .int p1), (2, .int p2), (3, .int p3)]) hx hb dX11_film_86 hl (by decide) rfl (fun ls hl => ?_)
                refine lv_iconst (v := 0) hx hb dX11_film_88 (by decide) ?_
                refine lv_istore (lv' := [(7, .int 0), (6, .int x48), (5, .ref b19), (4, .ref b1), (0, .ref h0), (1, .int p1), (2, .int p2), (3, .int p3)]) hx hb dX11_film_89 hl (by decide) rfl (fun ls hl => ?_)
                have L91 : ∀ (n52 : Nat) (y7_49 : Int32) (tt50 : Nat → Nat → Int64) (hm : (7 - y7_49.toInt).toNat < n52) (g51 : 0 ≤ y7_49.toInt ∧ y7_49.toInt ≤ 7) (inv91_0 : ∀ j, j ≠ p2.toNatClampNeg → tt50 j = tt j) (H : Heap) (locs : List Loc) (hH : hw_HT D G H) (vx : va_at D.1 vwCl (h0, .inr (10, hw_LX rx pn_x pc_x ks_x sc_x)) H) (vq : va_at D.1 vwCl ((rx 13), .inl (D.2.1 7, 4, .inr (.inr (.inr (.inr fq))))) H) (vc : va_at D.1 vwCl ((rx 0), .inr (1, hw_LC rc kc_c lc_c wc_c dk_c)) H) (hRK : hw_RK3 D G fq th la sz9 tt50 H) (hS : va_S (hw_AW G [19] s.heap.size) s.heap H locs) (ls : Array Slot) (hl : lv_has ls 8 [(7, .int y7_49), (6, .int x48), (5, .ref b19), (4, .ref b1), (0, .ref h0), (1, .int p1), (2, .int p2), (3, .int p3)]), W p l e ({ frames := 5, cells := 0, slots := 0, locals := 114 } : Room) s m args below meth c H locs 0 0 QQ (F0 m 91 ls []) := by
                  intro n52
                  induction n52 with
                  | zero => intro y7_49 tt50 hm; exact absurd hm (Nat.not_lt_zero _)
                  | succ n52 ih91 =>
                    intro y7_49 tt50 hm g51 inv91_0 H locs hH vx vq vc hRK hS ls hl
                    refine lv_iload hx hb dX11_film_91 (lv_at hl 0 rfl) ?_
                    refine lv_aload_n hx hb dX11_film_93 rfl (lv_at hl 4 rfl) ?_
                    refine hw_get hx hb fg_10_10 hK vx rfl dX11_film_94 ?_
                    refine hw_get hx hb fg_256_1 hK vc rfl dX11_film_97 ?_
                    refine lv_icmp_ge (tgt := 126) hx hb dX11_film_100 (by decide) (fun c53 => ?_) (fun c53 => ?_)
                    · have b54 : lc_c.toInt ≤ y7_49.toInt := hw_ile c53
                      refine lv_aload_n hx hb dX11_film_126 rfl (lv_at hl 4 rfl) ?_
                      refine hw_get hx hb fg_10_10 hK vx rfl dX11_film_127 ?_
                      refine hw_get hx hb fg_256_1 hK vc rfl dX11_film_130 ?_
                      exact hw_iretM (v := lc_c) hx hb hr hlocks hQ hS rfl (⟨lc_c, tt50, rfl, hH, (by first | exact hRK | (subst_vars; exact hRK)), vx, vq, vc, (by intro j hj h9; first | rfl | exact inv91_0 j (fun e => by rw [e] at h9; omega))⟩) dX11_film_133
                    · have b55 : y7_49.toInt < lc_c.toInt := hw_inle c53
                      obtain ⟨a56, r57, e58, k59, R60, v61, e62, v63⟩ := hRK.2.2 _ (hw_i4 q21)
                      have e64 : a56 = b19 := Option.some.inj (e58.symm.trans q22)
                      rw [e64] at k59 v61
                      rw [← e62] at v63
                      refine lv_aload hx hb dX11_film_103 (lv_at hl 2 rfl) ?_
                      refine lv_iload_n hx hb dX11_film_105 rfl (lv_at hl 7 rfl) ?_
                      refine lv_iload hx hb dX11_film_106 (lv_at hl 0 rfl) ?_
                      refine lv_iadd hx hb dX11_film_108 ?_
                      refine lv_topi (fun x65 e66 => ?_)
                      refine lv_iload hx hb dX11_film_109 (lv_at hl 1 rfl) ?_
                      refine lv_iload hx hb dX11_film_111 (lv_at hl 0 rfl) ?_
                      refine lv_ishr hx hb dX11_film_113 ?_
                      refine lv_topi (fun x67 e68 => ?_)
                      refine lv_iconst (v := 1) hx hb dX11_film_114 (by decide) ?_
                      refine lv_iand hx hb dX11_film_115 ?_
                      refine lv_topi (fun x69 e70 => ?_)
                      have t71 : 0 ≤ x69.toInt ∧ x69.toInt ≤ 1 := by rw [e70]; exact hw_and (by first | decide | omega)
                      refine lv_i2l hx hb dX11_film_116 rfl ?_
                      refine lv_topl (fun x72 e73 => ?_)
                      have hs9 := hw_G6_sub k59 R60
                      have hH9 := hw_G6_HT hH k59 R60 v61
                      have R9 := hw_G6_R k59 R60
                      refine hw_cM0 (va_runV (As := [.int x65, .long x72]) (rest := []) ⟨hx, hb, hml, hown, hts⟩ (k3_X7_put l D (hw_G6 b19 (r57 0)) b19 x65 x72 _ r57 (la p2.toNatClampNeg) (sz9 p2.toNatClampNeg) (tt50 p2.toNatClampNeg) (hw_G6_a b19 (r57 0)) R9) (cwV 2 hts gX11_film_X7_put rfl rfl rfl (by decide +kernel) ⟨Nat.le_of_ble_eq_true rfl, Nat.le_of_ble_eq_true rfl⟩) (hw_pV (hw_rc (q := (RX7, TX7, 3)) hK v61 rfl) hH9 hK hST hS (by decide) (fun q9 h9 => Or.inl (by rw [hs9 q9 h9]; exact h9)) ⟨v61, v63⟩) rfl rfl hl.1 rfl (lv_room (Nat.le_of_ble_eq_true rfl)) dX11_film_117 ⟨Nat.le_of_ble_eq_true rfl, Nat.le_of_ble_eq_true rfl⟩) hS (hw_AWsub2 (by decide) (by decide) hs9 hS.1) (fun v H locs hp hz hk hS => ?_)
                      obtain ⟨f74, rfl, hH8, v75, v76, q77⟩ := hp
                      have hH := hw_HT.merge hH hH8 hs9 hk (by decide)
                      have vx := va_at.kept vx (hk _ (hw_lt vx) (hw_AWn2 hs9 (by decide) G0 (by decide) (hw_lt vx)))
                      have vq := va_at.kept vq (hk _ (hw_lt vq) (hw_AWn2 hs9 (by decide) (hw_RX_13 Rx) (by decide) (hw_lt vq)))
                      have vc := va_at.kept vc (hk _ (hw_lt vc) (hw_AWn2 hs9 (by decide) (hw_RX_0 Rx) (by decide) (hw_lt vc)))
                      have hRK := hw_RK3.setG6T hRK (hw_i4 q21) q22 k59 R60 e62 v75 v76 hk
                      obtain ⟨x78, e79⟩ : ∃ y : Int32, y = y7_49 + 1 := ⟨_, rfl⟩
                      refine lv_iinc (v := x78) (lv' := [(7, .int x78), (6, .int x48), (5, .ref b19), (4, .ref b1), (0, .ref h0), (1, .int p1), (2, .int p2), (3, .int p3)]) hx hb dX11_film_120 hl (k := 0) rfl (by rw [e79]; rfl) (by decide) rfl (fun ls hl => ?_)
                      have t80 : x78.toInt = y7_49.toInt + 1 := by rw [e79]; exact hw_add rfl rfl (by omega) (by omega)
                      refine lv_goto (tgt := 91) hx hb dX11_film_123 (by decide) ?_
                      exact ih91 x78 (va_up tt50 p2.toNatClampNeg f74) (by first | omega | omega) ⟨by first | decide | omega, by first | decide | omega⟩ (by intro j hj; rw [va_up_ne _ _ hj]; exact inv91_0 j hj) _ _ hH vx vq vc hRK hS _ (lv_sub hl [0, 1, 2, 3, 4, 5, 6, 7] rfl)
                exact L91 _ 0 tt (Nat.lt_succ_self _) ⟨by first | decide | omega, by first | decide | omega⟩ (by intro j _; rfl) _ _ hH vx vq vc hRK hS _ (lv_sub hl [0, 1, 2, 3, 4, 5, 6, 7] rfl)
              · exact absurd c40 (by decide)
            · refine lv_if_ne (tgt := 72) hx hb dX11_film_66 (by decide) (fun c81 => ?_) (fun c81 => ?_)
              · exact absurd c81 (by decide)
              · refine lv_bipush (v := (-13)) hx hb dX11_film_69 (by decide) ?_
                exact hw_iretM (v := (-13)) hx hb hr hlocks hQ hS rfl (⟨(-13), tt, rfl, hH, (by first | exact hRK | (subst_vars; exact hRK)), vx, vq, vc, (by intro j hj h9; first | rfl | exact inv91_0 j (fun e => by rw [e] at h9; omega))⟩) dX11_film_71
          · have b82 : (la p2.toNatClampNeg).toInt ≠ 4 := hw_ine c36
            refine lv_bipush (v := (-12)) hx hb dX11_film_50 (by decide) ?_
            exact hw_iretM (v := (-12)) hx hb hr hlocks hQ hS rfl (⟨(-12), tt, rfl, hH, (by first | exact hRK | (subst_vars; exact hRK)), vx, vq, vc, (by intro j hj h9; first | rfl | exact inv91_0 j (fun e => by rw [e] at h9; omega))⟩) dX11_film_52
        · exact absurd c35 (by decide)
