set_option maxHeartbeats 4000000 in
set_option maxRecDepth 100000 in
theorem k_X7_isMissing (l : Launch) (D : hw_D) (G : Nat → Nat) (h0 : Nat) (sz : Nat) (ra : Nat → Nat) (la_a sz_a : Int32) (G0 : G h0 = 6) (Ra : hw_RK G ra) : Met l yX7_isMissing wsX7_isMissing ({ frames := 0, cells := 0, slots := 0, locals := 0 } : Room) (hw_PC D G [.ref h0] sz (fun H => va_at D.1 vwCl (h0, .inr (6, hw_LK ra la_a sz_a)) H)) (hw_QR (fun v => (v = .int 1 ∧ la_a.toInt = -1) ∨ (v = .int 0 ∧ la_a.toInt ≠ -1))) 0 0 (fun _ => False) := by
  refine hw_met (cc := cX7_isMissing) (maxL := 1) (ret := (some .boolean)) (plainFor_of_name (by decide)) rfl (Nat.le_of_ble_eq_true rfl) ?_
  intro p e s m args below meth c QQ ls hsz hx hb hml hr hts hown hlocks hnm hH hK hST hF hQ hl
  subst hsz
  have hS : va_S (hw_AW G [] s.heap.size) s.heap s.heap [] := va_S.rf
  have va := hF
  have hl : lv_has ls 1 [(0, .ref h0)] := hl
  have u_6 : ∀ w ∈ u_ws RX7 TX7 3, w.before args s = true := fun w hw => hts w ((by decide +kernel : ∀ w ∈ u_ws RX7 TX7 3, w ∈ wsX7_isMissing) w hw)
  have fg_15_6 : hw_FG s args m 15 6 1 := ⟨RX7, "WardWalkers$Rack", RX7, TX7, 3, u_6, hown, rfl, by decide, (hts (.fieldLink RX7 15 "WardWalkers$Rack" "lane" "I") (by decide +kernel)), (fun _ h9 => h9)⟩
  refine lv_aload_n hx hb dX7_isMissing_0 rfl (lv_at hl 0 rfl) ?_
  refine hw_get hx hb fg_15_6 hK va rfl dX7_isMissing_1 ?_
  refine lv_iconst (v := (-1)) hx hb dX7_isMissing_4 (by decide) ?_
  refine lv_icmp_ne (tgt := 12) hx hb dX7_isMissing_5 (by decide) (fun c1 => ?_) (fun c1 => ?_)
  · have b2 : la_a.toInt ≠ (-1) := hw_ine c1
    refine lv_iconst (v := 0) hx hb dX7_isMissing_12 (by decide) ?_
    exact hw_iretR (v := 0) hx hb hr hlocks hQ rfl (Or.inr (⟨rfl, (by first | rfl | trivial | assumption | omega | (intros; first | rfl | assumption | omega | (exfalso; omega)))⟩)) dX7_isMissing_13
  · have b3 : la_a.toInt = (-1) := hw_ieq c1
    refine lv_iconst (v := 1) hx hb dX7_isMissing_8 (by decide) ?_
    refine lv_goto (tgt := 13) hx hb dX7_isMissing_9 (by decide) ?_
    exact hw_iretR (v := 1) hx hb hr hlocks hQ rfl (Or.inl ⟨rfl, (by first | rfl | trivial | assumption | omega | (intros; first | rfl | assumption | omega | (exfalso; omega)))⟩) dX7_isMissing_13

set_option maxHeartbeats 4000000 in
set_option maxRecDepth 100000 in
theorem k_X7_begin (l : Launch) (D : hw_D) (G : Nat → Nat) (h0 : Nat) (p1 : Int32) (p2 : Int32) (sz : Nat) (ra : Nat → Nat) (la_a sz_a : Int32) (G0 : G h0 = 6) (Ra : hw_RK G ra) : Met l yX7_begin wsX7_begin ({ frames := 0, cells := 0, slots := 0, locals := 0 } : Room) (hw_PC D G [.ref h0, .int p1, .int p2] sz (fun H => va_at D.1 vwCl (h0, .inr (6, hw_LK ra la_a sz_a)) H)) (hw_QM (fun v H => ∃ (la_a2 : Int32) (sz_a2 : Int32), v = none ∧ hw_HT D G H ∧ va_at D.1 vwCl (h0, .inr (6, hw_LK ra la_a2 sz_a2)) H ∧ la_a2 = p1 ∧ sz_a2 = p2) (hw_AW G [6, 19] sz)) 0 0 (hw_AW G [6, 19] sz) := by
  refine hw_met (cc := cX7_begin) (maxL := 4) (ret := none) (plainFor_of_name (by decide)) rfl (Nat.le_of_ble_eq_true rfl) ?_
  intro p e s m args below meth c QQ ls hsz hx hb hml hr hts hown hlocks hnm hH hK hST hF hQ hl
  subst hsz
  have hS : va_S (hw_AW G [6, 19] s.heap.size) s.heap s.heap [] := va_S.rf
  have va := hF
  have hl : lv_has ls 4 [(0, .ref h0), (1, .int p1), (2, .int p2)] := hl
  have u_6 : ∀ w ∈ u_ws RX7 TX7 3, w.before args s = true := fun w hw => hts w ((by decide +kernel : ∀ w ∈ u_ws RX7 TX7 3, w ∈ wsX7_begin) w hw)
  have fp_15_6 : hw_FP s args m 15 6 1 false .int := ⟨RX7, "WardWalkers$Rack", RX7, TX7, 3, tyX7, u_6, hown, rfl, by decide, (hts (.fieldLink RX7 15 "WardWalkers$Rack" "lane" "I") (by decide +kernel)), (fun _ h9 => h9), tyX7_ok, nmX7, rfl, (fun h => by cases h), by decide +kernel⟩
  have fp_19_6 : hw_FP s args m 19 6 2 false .int := ⟨RX7, "WardWalkers$Rack", RX7, TX7, 3, tyX7, u_6, hown, rfl, by decide, (hts (.fieldLink RX7 19 "WardWalkers$Rack" "size" "I") (by decide +kernel)), (fun _ h9 => h9), tyX7_ok, nmX7, rfl, (fun h => by cases h), by decide +kernel⟩
  have fg_9_6 : hw_FG s args m 9 6 0 := ⟨RX7, "WardWalkers$Rack", RX7, TX7, 3, u_6, hown, rfl, by decide, (hts (.fieldLink RX7 9 "WardWalkers$Rack" "things" "[J") (by decide +kernel)), (fun _ h9 => h9)⟩
  refine lv_aload_n hx hb dX7_begin_0 rfl (lv_at hl 0 rfl) ?_
  refine lv_iload_n hx hb dX7_begin_1 rfl (lv_at hl 1 rfl) ?_
  refine hw_put (v := .int p1) (fs' := hw_LK ra p1 sz_a) hx hb fp_15_6 hK hH va (Nat.le_of_ble_eq_true rfl) rfl rfl rfl (fun _ => by rw [G0]; exact ⟨ra, p1, sz_a, rfl, Ra⟩) hS (hw_AWi G0 (by decide)) dX7_begin_2 (fun H locs hH va oq hz hS => ?_)
  refine lv_aload_n hx hb dX7_begin_5 rfl (lv_at hl 0 rfl) ?_
  refine lv_iload_n hx hb dX7_begin_6 rfl (lv_at hl 2 rfl) ?_
  refine hw_put (v := .int p2) (fs' := hw_LK ra p1 p2) hx hb fp_19_6 hK hH va (Nat.le_of_ble_eq_true rfl) rfl rfl rfl (fun _ => by rw [G0]; exact ⟨ra, p1, p2, rfl, Ra⟩) hS (hw_AWi G0 (by decide)) dX7_begin_7 (fun H locs hH va oq hz hS => ?_)
  refine lv_iconst (v := 0) hx hb dX7_begin_10 (by decide) ?_
  refine lv_istore_n (lv' := [(3, .int 0), (0, .ref h0), (1, .int p1), (2, .int p2)]) hx hb dX7_begin_11 rfl hl (by decide) rfl (fun ls hl => ?_)
  have L12 : ∀ (n3 : Nat) (y3_1 : Int32) (hm : (24 - y3_1.toInt).toNat < n3) (g2 : 0 ≤ y3_1.toInt ∧ y3_1.toInt ≤ 24) (H : Heap) (locs : List Loc) (hH : hw_HT D G H) (va : va_at D.1 vwCl (h0, .inr (6, hw_LK ra p1 p2)) H) (hS : va_S (hw_AW G [6, 19] s.heap.size) s.heap H locs) (ls : Array Slot) (hl : lv_has ls 4 [(3, .int y3_1), (0, .ref h0), (1, .int p1), (2, .int p2)]), W p l e ({ frames := 0, cells := 0, slots := 0, locals := 0 } : Room) s m args below meth c H locs 0 0 QQ (F0 m 12 ls []) := by
    intro n3
    induction n3 with
    | zero => intro y3_1 hm; exact absurd hm (Nat.not_lt_zero _)
    | succ n3 ih12 =>
      intro y3_1 hm g2 H locs hH va hS ls hl
      refine lv_iload_n hx hb dX7_begin_12 rfl (lv_at hl 0 rfl) ?_
      refine lv_bipush (v := 24) hx hb dX7_begin_13 (by decide) ?_
      refine lv_icmp_ge (tgt := 31) hx hb dX7_begin_15 (by decide) (fun c4 => ?_) (fun c4 => ?_)
      · have b5 : 24 ≤ y3_1.toInt := hw_ile c4
        exact hw_vretM hx hb hr hlocks hQ hS (⟨p1, p2, rfl, hH, va, (by rfl), (by rfl)⟩) dX7_begin_31
      · have b6 : y3_1.toInt < 24 := hw_inle c4
        refine lv_aload_n hx hb dX7_begin_18 rfl (lv_at hl 1 rfl) ?_
        refine hw_get hx hb fg_9_6 hK va rfl dX7_begin_19 ?_
        refine lv_iload_n hx hb dX7_begin_22 rfl (lv_at hl 0 rfl) ?_
        refine lv_lconst (v := 0) hx hb dX7_begin_23 (by decide) ?_
        obtain ⟨f7, v8⟩ := hH.a19 (hw_RK_0 Ra)
        refine hw_last hx hb hK hH v8 (hw_in (by omega) (by omega)) (fun _ => by rw [(hw_RK_0 Ra)]; exact ⟨_, rfl⟩) hS (hw_AWi (hw_RK_0 Ra) (by decide)) dX7_begin_24 (fun H locs hH v8 oq hz hS => ?_)
        have va := va_at.kept va (oq _ (hw_ne G0 (hw_RK_0 Ra) (by decide)))
        obtain ⟨x10, e11⟩ : ∃ y : Int32, y = y3_1 + 1 := ⟨_, rfl⟩
        refine lv_iinc (v := x10) (lv' := [(3, .int x10), (0, .ref h0), (1, .int p1), (2, .int p2)]) hx hb dX7_begin_25 hl (k := 0) rfl (by rw [e11]; rfl) (by decide) rfl (fun ls hl => ?_)
        have t12 : x10.toInt = y3_1.toInt + 1 := by rw [e11]; exact hw_add rfl rfl (by omega) (by omega)
        refine lv_goto (tgt := 12) hx hb dX7_begin_28 (by decide) ?_
        exact ih12 x10 (by first | omega | omega) ⟨by first | decide | omega, by first | decide | omega⟩ _ _ hH va hS _ (lv_sub hl [0, 1, 2, 3] rfl)
  exact L12 _ 0 (Nat.lt_succ_self _) ⟨by first | decide | omega, by first | decide | omega⟩ _ _ hH va hS _ (lv_sub hl [0, 1, 2, 3] rfl)

set_option maxHeartbeats 4000000 in
set_option maxRecDepth 100000 in
theorem k_X7_spans (l : Launch) (D : hw_D) (G : Nat → Nat) (h0 : Nat) (p1 : Int32) (p2 : Int32) (sz : Nat) (ra : Nat → Nat) (la_a sz_a : Int32) (G0 : G h0 = 6) (Ra : hw_RK G ra) : Met l yX7_spans wsX7_spans ({ frames := 0, cells := 0, slots := 0, locals := 0 } : Room) (hw_PC D G [.ref h0, .int p1, .int p2] sz (fun H => va_at D.1 vwCl (h0, .inr (6, hw_LK ra la_a sz_a)) H)) (hw_QR (fun v => (v = .int 1 ∧ (0 ≤ p1.toInt ∧ 0 ≤ p2.toInt ∧ p1.toInt + p2.toInt ≤ sz_a.toInt)) ∨ (v = .int 0 ∧ (p1.toInt < 0 ∨ p2.toInt < 0 ∨ sz_a.toInt < p1.toInt + p2.toInt)))) 0 0 (fun _ => False) := by
  refine hw_met (cc := cX7_spans) (maxL := 3) (ret := (some .boolean)) (plainFor_of_name (by decide)) rfl (Nat.le_of_ble_eq_true rfl) ?_
  intro p e s m args below meth c QQ ls hsz hx hb hml hr hts hown hlocks hnm hH hK hST hF hQ hl
  subst hsz
  have hS : va_S (hw_AW G [] s.heap.size) s.heap s.heap [] := va_S.rf
  have va := hF
  have hl : lv_has ls 3 [(0, .ref h0), (1, .int p1), (2, .int p2)] := hl
  have u_6 : ∀ w ∈ u_ws RX7 TX7 3, w.before args s = true := fun w hw => hts w ((by decide +kernel : ∀ w ∈ u_ws RX7 TX7 3, w ∈ wsX7_spans) w hw)
  have fg_19_6 : hw_FG s args m 19 6 2 := ⟨RX7, "WardWalkers$Rack", RX7, TX7, 3, u_6, hown, rfl, by decide, (hts (.fieldLink RX7 19 "WardWalkers$Rack" "size" "I") (by decide +kernel)), (fun _ h9 => h9)⟩
  refine lv_iload_n hx hb dX7_spans_0 rfl (lv_at hl 1 rfl) ?_
  refine lv_if_lt (tgt := 30) hx hb dX7_spans_1 (by decide) (fun c1 => ?_) (fun c1 => ?_)
  · have b2 : p1.toInt < 0 := hw_ilt c1
    refine lv_iconst (v := 0) hx hb dX7_spans_30 (by decide) ?_
    exact hw_iretR (v := 0) hx hb hr hlocks hQ rfl (Or.inr (⟨rfl, (by first | rfl | trivial | assumption | omega | (intros; first | rfl | assumption | omega | (exfalso; omega)))⟩)) dX7_spans_31
  · have b3 : 0 ≤ p1.toInt := hw_inlt c1
    refine lv_iload_n hx hb dX7_spans_4 rfl (lv_at hl 2 rfl) ?_
    refine lv_if_lt (tgt := 30) hx hb dX7_spans_5 (by decide) (fun c4 => ?_) (fun c4 => ?_)
    · have b5 : p2.toInt < 0 := hw_ilt c4
      refine lv_iconst (v := 0) hx hb dX7_spans_30 (by decide) ?_
      exact hw_iretR (v := 0) hx hb hr hlocks hQ rfl (Or.inr (⟨rfl, (by first | rfl | trivial | assumption | omega | (intros; first | rfl | assumption | omega | (exfalso; omega)))⟩)) dX7_spans_31
    · have b6 : 0 ≤ p2.toInt := hw_inlt c4
      refine lv_iload_n hx hb dX7_spans_8 rfl (lv_at hl 1 rfl) ?_
      refine lv_aload_n hx hb dX7_spans_9 rfl (lv_at hl 0 rfl) ?_
      refine hw_get hx hb fg_19_6 hK va rfl dX7_spans_10 ?_
      refine lv_icmp_gt (tgt := 30) hx hb dX7_spans_13 (by decide) (fun c7 => ?_) (fun c7 => ?_)
      · have b8 : sz_a.toInt < p1.toInt := hw_ilt c7
        refine lv_iconst (v := 0) hx hb dX7_spans_30 (by decide) ?_
        exact hw_iretR (v := 0) hx hb hr hlocks hQ rfl (Or.inr (⟨rfl, (by first | rfl | trivial | assumption | omega | (intros; first | rfl | assumption | omega | (exfalso; omega)))⟩)) dX7_spans_31
      · have b9 : p1.toInt ≤ sz_a.toInt := hw_inlt c7
        refine lv_iload_n hx hb dX7_spans_16 rfl (lv_at hl 2 rfl) ?_
        refine lv_aload_n hx hb dX7_spans_17 rfl (lv_at hl 0 rfl) ?_
        refine hw_get hx hb fg_19_6 hK va rfl dX7_spans_18 ?_
        refine lv_iload_n hx hb dX7_spans_21 rfl (lv_at hl 1 rfl) ?_
        refine lv_isub hx hb dX7_spans_22 ?_
        refine lv_topi (fun x10 e11 => ?_)
        have rg12 := hw_rng sz_a
        have rg13 := hw_rng p1
        have t14 : x10.toInt = sz_a.toInt - p1.toInt := by rw [e11]; exact hw_sub rfl rfl (by omega) (by omega)
        refine lv_icmp_gt (tgt := 30) hx hb dX7_spans_23 (by decide) (fun c15 => ?_) (fun c15 => ?_)
        · have b16 : x10.toInt < p2.toInt := hw_ilt c15
          refine lv_iconst (v := 0) hx hb dX7_spans_30 (by decide) ?_
          exact hw_iretR (v := 0) hx hb hr hlocks hQ rfl (Or.inr (⟨rfl, (by first | rfl | trivial | assumption | omega | (intros; first | rfl | assumption | omega | (exfalso; omega)))⟩)) dX7_spans_31
        · have b17 : p2.toInt ≤ x10.toInt := hw_inlt c15
          refine lv_iconst (v := 1) hx hb dX7_spans_26 (by decide) ?_
          refine lv_goto (tgt := 31) hx hb dX7_spans_27 (by decide) ?_
          exact hw_iretR (v := 1) hx hb hr hlocks hQ rfl (Or.inl ⟨rfl, (by first | rfl | trivial | assumption | omega | (intros; first | rfl | assumption | omega | (exfalso; omega)))⟩) dX7_spans_31

set_option maxHeartbeats 4000000 in
set_option maxRecDepth 100000 in
theorem k_X7_thingAt (l : Launch) (D : hw_D) (G : Nat → Nat) (h0 : Nat) (p1 : Int32) (sz : Nat) (G0 : G h0 = 6) : Met l yX7_thingAt wsX7_thingAt ({ frames := 0, cells := 0, slots := 0, locals := 0 } : Room) (hw_PC D G [.ref h0, .int p1] sz (fun H => True)) (hw_QR (fun v => ∃ (r : Int64), v = .long r)) 0 0 (fun _ => False) := by
  refine hw_met (cc := cX7_thingAt) (maxL := 2) (ret := (some .long)) (plainFor_of_name (by decide)) rfl (Nat.le_of_ble_eq_true rfl) ?_
  intro p e s m args below meth c QQ ls hsz hx hb hml hr hts hown hlocks hnm hH hK hST hF hQ hl
  subst hsz
  have hS : va_S (hw_AW G [] s.heap.size) s.heap s.heap [] := va_S.rf
  have hl : lv_has ls 2 [(0, .ref h0), (1, .int p1)] := hl
  have u_6 : ∀ w ∈ u_ws RX7 TX7 3, w.before args s = true := fun w hw => hts w ((by decide +kernel : ∀ w ∈ u_ws RX7 TX7 3, w ∈ wsX7_thingAt) w hw)
  have fg_19_6 : hw_FG s args m 19 6 2 := ⟨RX7, "WardWalkers$Rack", RX7, TX7, 3, u_6, hown, rfl, by decide, (hts (.fieldLink RX7 19 "WardWalkers$Rack" "size" "I") (by decide +kernel)), (fun _ h9 => h9)⟩
  have fg_9_6 : hw_FG s args m 9 6 0 := ⟨RX7, "WardWalkers$Rack", RX7, TX7, 3, u_6, hown, rfl, by decide, (hts (.fieldLink RX7 9 "WardWalkers$Rack" "things" "[J") (by decide +kernel)), (fun _ h9 => h9)⟩
  refine lv_iload_n hx hb dX7_thingAt_0 rfl (lv_at hl 1 rfl) ?_
  refine lv_if_lt (tgt := 27) hx hb dX7_thingAt_1 (by decide) (fun c1 => ?_) (fun c1 => ?_)
  · have b2 : p1.toInt < 0 := hw_ilt c1
    refine lv_lconst (v := 0) hx hb dX7_thingAt_27 (by decide) ?_
    exact hw_lretR (v := 0) hx hb hr hlocks hQ (⟨0, rfl⟩) dX7_thingAt_28
  · have b3 : 0 ≤ p1.toInt := hw_inlt c1
    refine lv_iload_n hx hb dX7_thingAt_4 rfl (lv_at hl 1 rfl) ?_
    refine lv_aload_n hx hb dX7_thingAt_5 rfl (lv_at hl 0 rfl) ?_
    obtain ⟨r4, la_5, sz_6, v7, R8⟩ := hH.oK G0
    refine hw_get hx hb fg_19_6 hK v7 rfl dX7_thingAt_6 ?_
    refine lv_icmp_ge (tgt := 27) hx hb dX7_thingAt_9 (by decide) (fun c9 => ?_) (fun c9 => ?_)
    · have b10 : sz_6.toInt ≤ p1.toInt := hw_ile c9
      refine lv_lconst (v := 0) hx hb dX7_thingAt_27 (by decide) ?_
      exact hw_lretR (v := 0) hx hb hr hlocks hQ (⟨0, rfl⟩) dX7_thingAt_28
    · have b11 : p1.toInt < sz_6.toInt := hw_inle c9
      refine lv_iload_n hx hb dX7_thingAt_12 rfl (lv_at hl 1 rfl) ?_
      refine lv_bipush (v := 24) hx hb dX7_thingAt_13 (by decide) ?_
      refine lv_icmp_ge (tgt := 27) hx hb dX7_thingAt_15 (by decide) (fun c12 => ?_) (fun c12 => ?_)
      · have b13 : 24 ≤ p1.toInt := hw_ile c12
        refine lv_lconst (v := 0) hx hb dX7_thingAt_27 (by decide) ?_
        exact hw_lretR (v := 0) hx hb hr hlocks hQ (⟨0, rfl⟩) dX7_thingAt_28
      · have b14 : p1.toInt < 24 := hw_inle c12
        refine lv_aload_n hx hb dX7_thingAt_18 rfl (lv_at hl 0 rfl) ?_
        refine hw_get hx hb fg_9_6 hK v7 rfl dX7_thingAt_19 ?_
        refine lv_iload_n hx hb dX7_thingAt_22 rfl (lv_at hl 1 rfl) ?_
        obtain ⟨f15, v16⟩ := hH.a19 (hw_RK_0 R8)
        refine hw_lald hx hb hK v16 (hw_in (by omega) (by omega)) dX7_thingAt_23 ?_
        refine lv_topl (fun x18 e19 => ?_)
        refine lv_goto (tgt := 28) hx hb dX7_thingAt_24 (by decide) ?_
        exact hw_lretR (v := x18) hx hb hr hlocks hQ (⟨x18, rfl⟩) dX7_thingAt_28

set_option maxHeartbeats 4000000 in
set_option maxRecDepth 100000 in
theorem k_X7_cutDown (l : Launch) (D : hw_D) (G : Nat → Nat) (h0 : Nat) (p1 : Int64) (sz : Nat) (G0 : G h0 = 6) : Met l yX7_cutDown wsX7_cutDown ({ frames := 0, cells := 0, slots := 0, locals := 0 } : Room) (hw_PC D G [.ref h0, .long p1] sz (fun H => True)) (hw_QR (fun v => ∃ (r : Int64), v = .long r)) 0 0 (fun _ => False) := by
  refine hw_met (cc := cX7_cutDown) (maxL := 3) (ret := (some .long)) (plainFor_of_name (by decide)) rfl (Nat.le_of_ble_eq_true rfl) ?_
  intro p e s m args below meth c QQ ls hsz hx hb hml hr hts hown hlocks hnm hH hK hST hF hQ hl
  subst hsz
  have hS : va_S (hw_AW G [] s.heap.size) s.heap s.heap [] := va_S.rf
  have hl : lv_has ls 3 [(0, .ref h0), (1, .long p1)] := hl
  have u_6 : ∀ w ∈ u_ws RX7 TX7 3, w.before args s = true := fun w hw => hts w ((by decide +kernel : ∀ w ∈ u_ws RX7 TX7 3, w ∈ wsX7_cutDown) w hw)
  have fg_15_6 : hw_FG s args m 15 6 1 := ⟨RX7, "WardWalkers$Rack", RX7, TX7, 3, u_6, hown, rfl, by decide, (hts (.fieldLink RX7 15 "WardWalkers$Rack" "lane" "I") (by decide +kernel)), (fun _ h9 => h9)⟩
  refine lv_aload_n hx hb dX7_cutDown_0 rfl (lv_at hl 0 rfl) ?_
  obtain ⟨r1, la_2, sz_3, v4, R5⟩ := hH.oK G0
  refine hw_get hx hb fg_15_6 hK v4 rfl dX7_cutDown_1 ?_
  by_cases w6 : la_2.toInt < 0 ∨ 4 < la_2.toInt
  · refine lv_tableOut (tgt := 60) hx hb dX7_cutDown_4 w6 (by decide) ?_
    refine lv_lconst (v := 0) hx hb dX7_cutDown_60 (by decide) ?_
    exact hw_lretR (v := 0) hx hb hr hlocks hQ (⟨0, rfl⟩) dX7_cutDown_61
  · rcases (show la_2.toInt = 0 ∨ la_2.toInt = 1 ∨ la_2.toInt = 2 ∨ la_2.toInt = 3 ∨ la_2.toInt = 4 by omega) with w6 | w6 | w6 | w6 | w6
    · refine lv_tableIn (tgt := 40) (off := 36) hx hb dX7_cutDown_4 (by omega) (by omega) (by rw [w6]; rfl) (by decide) ?_
      refine lv_lload_n hx hb dX7_cutDown_40 rfl (lv_at hl 1 rfl) ?_
      refine lv_l2i hx hb dX7_cutDown_41 rfl ?_
      refine lv_topi (fun x7 e8 => ?_)
      refine lv_i2b hx hb dX7_cutDown_42 rfl ?_
      refine lv_topi (fun x9 e10 => ?_)
      refine lv_i2l hx hb dX7_cutDown_43 rfl ?_
      refine lv_topl (fun x11 e12 => ?_)
      exact hw_lretR (v := x11) hx hb hr hlocks hQ (⟨x11, rfl⟩) dX7_cutDown_44
    · refine lv_tableIn (tgt := 45) (off := 41) hx hb dX7_cutDown_4 (by omega) (by omega) (by rw [w6]; rfl) (by decide) ?_
      refine lv_lload_n hx hb dX7_cutDown_45 rfl (lv_at hl 1 rfl) ?_
      refine lv_l2i hx hb dX7_cutDown_46 rfl ?_
      refine lv_topi (fun x13 e14 => ?_)
      refine lv_i2s hx hb dX7_cutDown_47 rfl ?_
      refine lv_topi (fun x15 e16 => ?_)
      refine lv_i2l hx hb dX7_cutDown_48 rfl ?_
      refine lv_topl (fun x17 e18 => ?_)
      exact hw_lretR (v := x17) hx hb hr hlocks hQ (⟨x17, rfl⟩) dX7_cutDown_49
    · refine lv_tableIn (tgt := 50) (off := 46) hx hb dX7_cutDown_4 (by omega) (by omega) (by rw [w6]; rfl) (by decide) ?_
      refine lv_lload_n hx hb dX7_cutDown_50 rfl (lv_at hl 1 rfl) ?_
      refine lv_l2i hx hb dX7_cutDown_51 rfl ?_
      refine lv_topi (fun x19 e20 => ?_)
      refine lv_i2l hx hb dX7_cutDown_52 rfl ?_
      refine lv_topl (fun x21 e22 => ?_)
      exact hw_lretR (v := x21) hx hb hr hlocks hQ (⟨x21, rfl⟩) dX7_cutDown_53
    · refine lv_tableIn (tgt := 54) (off := 50) hx hb dX7_cutDown_4 (by omega) (by omega) (by rw [w6]; rfl) (by decide) ?_
      refine lv_lload_n hx hb dX7_cutDown_54 rfl (lv_at hl 1 rfl) ?_
      exact hw_lretR (v := p1) hx hb hr hlocks hQ (⟨p1, rfl⟩) dX7_cutDown_55
    · refine lv_tableIn (tgt := 56) (off := 52) hx hb dX7_cutDown_4 (by omega) (by omega) (by rw [w6]; rfl) (by decide) ?_
      refine lv_lload_n hx hb dX7_cutDown_56 rfl (lv_at hl 1 rfl) ?_
      refine lv_lconst (v := 1) hx hb dX7_cutDown_57 (by decide) ?_
      refine lv_land hx hb dX7_cutDown_58  ?_
      refine lv_topl (fun x23 e24 => ?_)
      exact hw_lretR (v := x23) hx hb hr hlocks hQ (⟨x23, rfl⟩) dX7_cutDown_59

set_option maxHeartbeats 4000000 in
set_option maxRecDepth 100000 in
theorem k_X7_put (l : Launch) (D : hw_D) (G : Nat → Nat) (h0 : Nat) (p1 : Int32) (p2 : Int64) (sz : Nat) (G0 : G h0 = 6) : Met l yX7_put wsX7_put ({ frames := 1, cells := 0, slots := 0, locals := 22 } : Room) (hw_PC D G [.ref h0, .int p1, .long p2] sz (fun H => True)) (hw_QM (fun v H => v = none ∧ hw_HT D G H) (hw_AW G [19] sz)) 0 0 (hw_AW G [19] sz) := by
  refine hw_met (cc := cX7_put) (maxL := 4) (ret := none) (plainFor_of_name (by decide)) rfl (Nat.le_of_ble_eq_true rfl) ?_
  intro p e s m args below meth c QQ ls hsz hx hb hml hr hts hown hlocks hnm hH hK hST hF hQ hl
  subst hsz
  have hS : va_S (hw_AW G [19] s.heap.size) s.heap s.heap [] := va_S.rf
  have hl : lv_has ls 4 [(0, .ref h0), (1, .int p1), (2, .long p2)] := hl
  have u_6 : ∀ w ∈ u_ws RX7 TX7 3, w.before args s = true := fun w hw => hts w ((by decide +kernel : ∀ w ∈ u_ws RX7 TX7 3, w ∈ wsX7_put) w hw)
  have fg_19_6 : hw_FG s args m 19 6 2 := ⟨RX7, "WardWalkers$Rack", RX7, TX7, 3, u_6, hown, rfl, by decide, (hts (.fieldLink RX7 19 "WardWalkers$Rack" "size" "I") (by decide +kernel)), (fun _ h9 => h9)⟩
  have fg_9_6 : hw_FG s args m 9 6 0 := ⟨RX7, "WardWalkers$Rack", RX7, TX7, 3, u_6, hown, rfl, by decide, (hts (.fieldLink RX7 9 "WardWalkers$Rack" "things" "[J") (by decide +kernel)), (fun _ h9 => h9)⟩
  refine lv_iload_n hx hb dX7_put_0 rfl (lv_at hl 1 rfl) ?_
  refine lv_if_lt (tgt := 29) hx hb dX7_put_1 (by decide) (fun c1 => ?_) (fun c1 => ?_)
  · have b2 : p1.toInt < 0 := hw_ilt c1
    exact hw_vretM hx hb hr hlocks hQ hS (⟨rfl, hH⟩) dX7_put_29
  · have b3 : 0 ≤ p1.toInt := hw_inlt c1
    refine lv_iload_n hx hb dX7_put_4 rfl (lv_at hl 1 rfl) ?_
    refine lv_aload_n hx hb dX7_put_5 rfl (lv_at hl 0 rfl) ?_
    obtain ⟨r4, la_5, sz_6, v7, R8⟩ := hH.oK G0
    refine hw_get hx hb fg_19_6 hK v7 rfl dX7_put_6 ?_
    refine lv_icmp_ge (tgt := 29) hx hb dX7_put_9 (by decide) (fun c9 => ?_) (fun c9 => ?_)
    · have b10 : sz_6.toInt ≤ p1.toInt := hw_ile c9
      exact hw_vretM hx hb hr hlocks hQ hS (⟨rfl, hH⟩) dX7_put_29
    · have b11 : p1.toInt < sz_6.toInt := hw_inle c9
      refine lv_iload_n hx hb dX7_put_12 rfl (lv_at hl 1 rfl) ?_
      refine lv_bipush (v := 24) hx hb dX7_put_13 (by decide) ?_
      refine lv_icmp_ge (tgt := 29) hx hb dX7_put_15 (by decide) (fun c12 => ?_) (fun c12 => ?_)
      · have b13 : 24 ≤ p1.toInt := hw_ile c12
        exact hw_vretM hx hb hr hlocks hQ hS (⟨rfl, hH⟩) dX7_put_29
      · have b14 : p1.toInt < 24 := hw_inle c12
        refine lv_aload_n hx hb dX7_put_18 rfl (lv_at hl 0 rfl) ?_
        refine hw_get hx hb fg_9_6 hK v7 rfl dX7_put_19 ?_
        refine lv_iload_n hx hb dX7_put_22 rfl (lv_at hl 1 rfl) ?_
        refine lv_aload_n hx hb dX7_put_23 rfl (lv_at hl 0 rfl) ?_
        refine lv_lload_n hx hb dX7_put_24 rfl (lv_at hl 2 rfl) ?_
        refine hw_cR (va_runV (As := [.long p2]) (rest := [.int p1, .ref (r4 0)]) ⟨hx, hb, hml, hown, hts⟩ (k_X7_cutDown l D G h0 p2 _ G0) (cwV 1 hts gX7_put_X7_cutDown rfl rfl rfl (by decide +kernel) ⟨Nat.le_of_ble_eq_true rfl, Nat.le_of_ble_eq_true rfl⟩) (hw_pV (hw_rc (q := (RX7, TX7, 3)) hK v7 rfl) hH hK hST hS (by decide) (fun _ h => Or.inl h) trivial) rfl rfl hl.1 rfl (lv_room (Nat.le_of_ble_eq_true rfl)) dX7_put_25 ⟨Nat.le_of_ble_eq_true rfl, Nat.le_of_ble_eq_true rfl⟩) (fun v hp => ?_)
        obtain ⟨x15, rfl⟩ := hp
        obtain ⟨f16, v17⟩ := hH.a19 (hw_RK_0 R8)
        refine hw_last hx hb hK hH v17 (hw_in (by omega) (by omega)) (fun _ => by rw [(hw_RK_0 R8)]; exact ⟨_, rfl⟩) hS (hw_AWi (hw_RK_0 R8) (by decide)) dX7_put_28 (fun H locs hH v17 oq hz hS => ?_)
        have v7 := va_at.kept v7 (oq _ (hw_ne G0 (hw_RK_0 R8) (by decide)))
        exact hw_vretM hx hb hr hlocks hQ hS (⟨rfl, hH⟩) dX7_put_29

set_option maxHeartbeats 4000000 in
set_option maxRecDepth 100000 in
theorem k_X7_together (l : Launch) (D : hw_D) (G : Nat → Nat) (h0 : Nat) (sz : Nat) (G0 : G h0 = 6) : Met l yX7_together wsX7_together ({ frames := 0, cells := 0, slots := 0, locals := 0 } : Room) (hw_PC D G [.ref h0] sz (fun H => True)) (hw_QR (fun v => ∃ (r : Int64), v = .long r)) 0 0 (fun _ => False) := by
  refine hw_met (cc := cX7_together) (maxL := 4) (ret := (some .long)) (plainFor_of_name (by decide)) rfl (Nat.le_of_ble_eq_true rfl) ?_
  intro p e s m args below meth c QQ ls hsz hx hb hml hr hts hown hlocks hnm hH hK hST hF hQ hl
  subst hsz
  have hS : va_S (hw_AW G [] s.heap.size) s.heap s.heap [] := va_S.rf
  have hl : lv_has ls 4 [(0, .ref h0)] := hl
  have u_6 : ∀ w ∈ u_ws RX7 TX7 3, w.before args s = true := fun w hw => hts w ((by decide +kernel : ∀ w ∈ u_ws RX7 TX7 3, w ∈ wsX7_together) w hw)
  have fg_19_6 : hw_FG s args m 19 6 2 := ⟨RX7, "WardWalkers$Rack", RX7, TX7, 3, u_6, hown, rfl, by decide, (hts (.fieldLink RX7 19 "WardWalkers$Rack" "size" "I") (by decide +kernel)), (fun _ h9 => h9)⟩
  have fg_9_6 : hw_FG s args m 9 6 0 := ⟨RX7, "WardWalkers$Rack", RX7, TX7, 3, u_6, hown, rfl, by decide, (hts (.fieldLink RX7 9 "WardWalkers$Rack" "things" "[J") (by decide +kernel)), (fun _ h9 => h9)⟩
  refine lv_lconst (v := 0) hx hb dX7_together_0 (by decide) ?_
  refine lv_lstore_n (lv' := [(1, .long 0), (0, .ref h0)]) hx hb dX7_together_1 rfl hl (by decide) rfl (fun ls hl => ?_)
  refine lv_iconst (v := 0) hx hb dX7_together_2 (by decide) ?_
  refine lv_istore_n (lv' := [(3, .int 0), (1, .long 0), (0, .ref h0)]) hx hb dX7_together_3 rfl hl (by decide) rfl (fun ls hl => ?_)
  have L4 : ∀ (n4 : Nat) (y3_1 : Int32) (y1_2 : Int64) (hm : (24 - y3_1.toInt).toNat < n4) (g3 : 0 ≤ y3_1.toInt ∧ y3_1.toInt ≤ 24) (ls : Array Slot) (hl : lv_has ls 4 [(3, .int y3_1), (1, .long y1_2), (0, .ref h0)]), W p l e ({ frames := 0, cells := 0, slots := 0, locals := 0 } : Room) s m args below meth c s.heap [] 0 0 QQ (F0 m 4 ls []) := by
    intro n4
    induction n4 with
    | zero => intro y3_1 y1_2 hm; exact absurd hm (Nat.not_lt_zero _)
    | succ n4 ih4 =>
      intro y3_1 y1_2 hm g3 ls hl
      refine lv_iload_n hx hb dX7_together_4 rfl (lv_at hl 0 rfl) ?_
      refine lv_aload_n hx hb dX7_together_5 rfl (lv_at hl 2 rfl) ?_
      obtain ⟨r5, la_6, sz_7, v8, R9⟩ := hH.oK G0
      refine hw_get hx hb fg_19_6 hK v8 rfl dX7_together_6 ?_
      refine lv_icmp_ge (tgt := 33) hx hb dX7_together_9 (by decide) (fun c10 => ?_) (fun c10 => ?_)
      · have b11 : sz_7.toInt ≤ y3_1.toInt := hw_ile c10
        refine lv_lload_n hx hb dX7_together_33 rfl (lv_at hl 1 rfl) ?_
        exact hw_lretR (v := y1_2) hx hb hr hlocks hQ (⟨y1_2, rfl⟩) dX7_together_34
      · have b12 : y3_1.toInt < sz_7.toInt := hw_inle c10
        refine lv_iload_n hx hb dX7_together_12 rfl (lv_at hl 0 rfl) ?_
        refine lv_bipush (v := 24) hx hb dX7_together_13 (by decide) ?_
        refine lv_icmp_ge (tgt := 33) hx hb dX7_together_15 (by decide) (fun c13 => ?_) (fun c13 => ?_)
        · have b14 : 24 ≤ y3_1.toInt := hw_ile c13
          refine lv_lload_n hx hb dX7_together_33 rfl (lv_at hl 1 rfl) ?_
          exact hw_lretR (v := y1_2) hx hb hr hlocks hQ (⟨y1_2, rfl⟩) dX7_together_34
        · have b15 : y3_1.toInt < 24 := hw_inle c13
          refine lv_lload_n hx hb dX7_together_18 rfl (lv_at hl 1 rfl) ?_
          refine lv_aload_n hx hb dX7_together_19 rfl (lv_at hl 2 rfl) ?_
          refine hw_get hx hb fg_9_6 hK v8 rfl dX7_together_20 ?_
          refine lv_iload_n hx hb dX7_together_23 rfl (lv_at hl 0 rfl) ?_
          obtain ⟨f16, v17⟩ := hH.a19 (hw_RK_0 R9)
          refine hw_lald hx hb hK v17 (hw_in (by omega) (by omega)) dX7_together_24 ?_
          refine lv_topl (fun x19 e20 => ?_)
          refine lv_ladd hx hb dX7_together_25  ?_
          refine lv_topl (fun x21 e22 => ?_)
          refine lv_lstore_n (lv' := [(1, .long x21), (3, .int y3_1), (0, .ref h0)]) hx hb dX7_together_26 rfl hl (by decide) rfl (fun ls hl => ?_)
          obtain ⟨x23, e24⟩ : ∃ y : Int32, y = y3_1 + 1 := ⟨_, rfl⟩
          refine lv_iinc (v := x23) (lv' := [(3, .int x23), (1, .long x21), (0, .ref h0)]) hx hb dX7_together_27 hl (k := 1) rfl (by rw [e24]; rfl) (by decide) rfl (fun ls hl => ?_)
          have t25 : x23.toInt = y3_1.toInt + 1 := by rw [e24]; exact hw_add rfl rfl (by omega) (by omega)
          refine lv_goto (tgt := 4) hx hb dX7_together_30 (by decide) ?_
          exact ih4 x23 x21 (by first | omega | omega) ⟨by first | decide | omega, by first | decide | omega⟩ _ (lv_sub hl [0, 1, 2] rfl)
  exact L4 _ 0 0 (Nat.lt_succ_self _) ⟨by first | decide | omega, by first | decide | omega⟩ _ (lv_sub hl [0, 1, 2] rfl)

set_option maxHeartbeats 4000000 in
set_option maxRecDepth 100000 in
theorem k_X6_keyFor (l : Launch) (D : hw_D) (G : Nat → Nat) (h0 : Nat) (p1 : Int32) (sz : Nat) (G0 : G h0 = 5) : Met l yX6_keyFor wsX6_keyFor ({ frames := 0, cells := 0, slots := 0, locals := 0 } : Room) (hw_PC D G [.ref h0, .int p1] sz (fun H => True)) (hw_QR (fun v => ∃ (r : Int32), v = .int r ∧ ((-1) ≤ r.toInt ∧ r.toInt ≤ 6))) 0 0 (fun _ => False) := by
  refine hw_met (cc := cX6_keyFor) (maxL := 2) (ret := (some .int)) (plainFor_of_name (by decide)) rfl (Nat.le_of_ble_eq_true rfl) ?_
  intro p e s m args below meth c QQ ls hsz hx hb hml hr hts hown hlocks hnm hH hK hST hF hQ hl
  subst hsz
  have hS : va_S (hw_AW G [] s.heap.size) s.heap s.heap [] := va_S.rf
  have hl : lv_has ls 2 [(0, .ref h0), (1, .int p1)] := hl
  have u_5 : ∀ w ∈ u_ws RX6 TX6 7, w.before args s = true := fun w hw => hts w ((by decide +kernel : ∀ w ∈ u_ws RX6 TX6 7, w ∈ wsX6_keyFor) w hw)
  have fg_18_5 : hw_FG s args m 18 5 2 := ⟨RX6, "WardWalkers$Planner", RX6, TX6, 7, u_5, hown, rfl, by decide, (hts (.fieldLink RX6 18 "WardWalkers$Planner" "chosen" "[I") (by decide +kernel)), (fun _ h9 => h9)⟩
  refine lv_iload_n hx hb dX6_keyFor_0 rfl (lv_at hl 1 rfl) ?_
  refine lv_if_lt (tgt := 19) hx hb dX6_keyFor_1 (by decide) (fun c1 => ?_) (fun c1 => ?_)
  · have b2 : p1.toInt < 0 := hw_ilt c1
    refine lv_iconst (v := (-1)) hx hb dX6_keyFor_19 (by decide) ?_
    exact hw_iretR (v := (-1)) hx hb hr hlocks hQ rfl (⟨(-1), rfl, ⟨by first | decide | omega, by first | decide | omega⟩⟩) dX6_keyFor_20
  · have b3 : 0 ≤ p1.toInt := hw_inlt c1
    refine lv_iload_n hx hb dX6_keyFor_4 rfl (lv_at hl 1 rfl) ?_
    refine lv_bipush (v := 7) hx hb dX6_keyFor_5 (by decide) ?_
    refine lv_icmp_ge (tgt := 19) hx hb dX6_keyFor_7 (by decide) (fun c4 => ?_) (fun c4 => ?_)
    · have b5 : 7 ≤ p1.toInt := hw_ile c4
      refine lv_iconst (v := (-1)) hx hb dX6_keyFor_19 (by decide) ?_
      exact hw_iretR (v := (-1)) hx hb hr hlocks hQ rfl (⟨(-1), rfl, ⟨by first | decide | omega, by first | decide | omega⟩⟩) dX6_keyFor_20
    · have b6 : p1.toInt < 7 := hw_inle c4
      refine lv_aload_n hx hb dX6_keyFor_10 rfl (lv_at hl 0 rfl) ?_
      obtain ⟨r7, pa_8, v9, R10⟩ := hH.oP G0
      refine hw_get hx hb fg_18_5 hK v9 rfl dX6_keyFor_11 ?_
      refine lv_iload_n hx hb dX6_keyFor_14 rfl (lv_at hl 1 rfl) ?_
      obtain ⟨f11, v12, q13⟩ := hH.a15 (hw_RP_2 R10)
      refine hw_iald hx hb hK v12 (hw_in (by omega) (by omega)) dX6_keyFor_15 ?_
      refine lv_topi (fun x14 e15 => ?_)
      have n17 : vp_in p1 7 := (hw_in (by omega) (by omega))
      have t16 : (-1) ≤ x14.toInt ∧ x14.toInt ≤ 6 := by rw [e15]; exact q13 _ (Nat.not_le.mp fun q => n17 (Or.inr q))
      refine lv_goto (tgt := 20) hx hb dX6_keyFor_16 (by decide) ?_
      exact hw_iretR (v := x14) hx hb hr hlocks hQ rfl (⟨x14, rfl, ⟨by first | decide | omega, by first | decide | omega⟩⟩) dX6_keyFor_20

set_option maxHeartbeats 4000000 in
set_option maxRecDepth 100000 in
theorem k_X6_isFree (l : Launch) (D : hw_D) (G : Nat → Nat) (h0 : Nat) (p1 : Int32) (p2 : Int32) (p3 : Int32) (sz : Nat) (G0 : G h0 = 5) (hl2 : 0 ≤ p2.toInt ∧ p2.toInt < 7) : Met l yX6_isFree wsX6_isFree ({ frames := 0, cells := 0, slots := 0, locals := 0 } : Room) (hw_PC D G [.ref h0, .int p1, .int p2, .int p3] sz (fun H => True)) (hw_QR (fun v => (v = .int 1) ∨ (v = .int 0))) 0 0 (fun _ => False) := by
  refine hw_met (cc := cX6_isFree) (maxL := 4) (ret := (some .boolean)) (plainFor_of_name (by decide)) rfl (Nat.le_of_ble_eq_true rfl) ?_
  intro p e s m args below meth c QQ ls hsz hx hb hml hr hts hown hlocks hnm hH hK hST hF hQ hl
  subst hsz
  have hS : va_S (hw_AW G [] s.heap.size) s.heap s.heap [] := va_S.rf
  have hl : lv_has ls 4 [(0, .ref h0), (1, .int p1), (2, .int p2), (3, .int p3)] := hl
  have u_5 : ∀ w ∈ u_ws RX6 TX6 7, w.before args s = true := fun w hw => hts w ((by decide +kernel : ∀ w ∈ u_ws RX6 TX6 7, w ∈ wsX6_isFree) w hw)
  have fg_9_5 : hw_FG s args m 9 5 0 := ⟨RX6, "WardWalkers$Planner", RX6, TX6, 7, u_5, hown, rfl, by decide, (hts (.fieldLink RX6 9 "WardWalkers$Planner" "takers" "[I") (by decide +kernel)), (fun _ h9 => h9)⟩
  refine lv_aload_n hx hb dX6_isFree_0 rfl (lv_at hl 0 rfl) ?_
  obtain ⟨r1, pa_2, v3, R4⟩ := hH.oP G0
  refine hw_get hx hb fg_9_5 hK v3 rfl dX6_isFree_1 ?_
  refine lv_iload_n hx hb dX6_isFree_4 rfl (lv_at hl 2 rfl) ?_
  obtain ⟨f5, v6⟩ := hH.a13 (hw_RP_0 R4)
  refine hw_iald hx hb hK v6 (hw_in (by omega) (by omega)) dX6_isFree_5 ?_
  refine lv_topi (fun x8 e9 => ?_)
  refine lv_iload_n hx hb dX6_isFree_6 rfl (lv_at hl 1 rfl) ?_
  refine lv_ishr hx hb dX6_isFree_7 ?_
  refine lv_topi (fun x10 e11 => ?_)
  refine lv_iconst (v := 1) hx hb dX6_isFree_8 (by decide) ?_
  refine lv_iand hx hb dX6_isFree_9 ?_
  refine lv_topi (fun x12 e13 => ?_)
  have t14 : 0 ≤ x12.toInt ∧ x12.toInt ≤ 1 := by rw [e13]; exact hw_and (by first | decide | omega)
  refine lv_iconst (v := 1) hx hb dX6_isFree_10 (by decide) ?_
  refine lv_icmp_ne (tgt := 26) hx hb dX6_isFree_11 (by decide) (fun c15 => ?_) (fun c15 => ?_)
  · have b16 : x12.toInt ≠ 1 := hw_ine c15
    refine lv_iconst (v := 0) hx hb dX6_isFree_26 (by decide) ?_
    exact hw_iretR (v := 0) hx hb hr hlocks hQ rfl (Or.inr (rfl)) dX6_isFree_27
  · have b17 : x12.toInt = 1 := hw_ieq c15
    refine lv_iload_n hx hb dX6_isFree_14 rfl (lv_at hl 3 rfl) ?_
    refine lv_iload_n hx hb dX6_isFree_15 rfl (lv_at hl 1 rfl) ?_
    refine lv_ishr hx hb dX6_isFree_16 ?_
    refine lv_topi (fun x18 e19 => ?_)
    refine lv_iconst (v := 1) hx hb dX6_isFree_17 (by decide) ?_
    refine lv_iand hx hb dX6_isFree_18 ?_
    refine lv_topi (fun x20 e21 => ?_)
    have t22 : 0 ≤ x20.toInt ∧ x20.toInt ≤ 1 := by rw [e21]; exact hw_and (by first | decide | omega)
    refine lv_if_ne (tgt := 26) hx hb dX6_isFree_19 (by decide) (fun c23 => ?_) (fun c23 => ?_)
    · have b24 : x20.toInt ≠ 0 := hw_ine c23
      refine lv_iconst (v := 0) hx hb dX6_isFree_26 (by decide) ?_
      exact hw_iretR (v := 0) hx hb hr hlocks hQ rfl (Or.inr (rfl)) dX6_isFree_27
    · have b25 : x20.toInt = 0 := hw_ieq c23
      refine lv_iconst (v := 1) hx hb dX6_isFree_22 (by decide) ?_
      refine lv_goto (tgt := 27) hx hb dX6_isFree_23 (by decide) ?_
      exact hw_iretR (v := 1) hx hb hr hlocks hQ rfl (Or.inl rfl) dX6_isFree_27

set_option maxHeartbeats 4000000 in
set_option maxRecDepth 100000 in
theorem k_X6_fillMost (l : Launch) (D : hw_D) (G : Nat → Nat) (h0 : Nat) (sz : Nat) (G0 : G h0 = 5) : Met l yX6_fillMost wsX6_fillMost ({ frames := 1, cells := 0, slots := 0, locals := 23 } : Room) (hw_PC D G [.ref h0] sz (fun H => True)) (hw_QM (fun v H => v = none ∧ hw_HT D G H) (hw_AW G [14] sz)) 0 0 (hw_AW G [14] sz) := by
  refine hw_met (cc := cX6_fillMost) (maxL := 5) (ret := none) (plainFor_of_name (by decide)) rfl (Nat.le_of_ble_eq_true rfl) ?_
  intro p e s m args below meth c QQ ls hsz hx hb hml hr hts hown hlocks hnm hH hK hST hF hQ hl
  subst hsz
  have hS : va_S (hw_AW G [14] s.heap.size) s.heap s.heap [] := va_S.rf
  have hl : lv_has ls 5 [(0, .ref h0)] := hl
  have u_5 : ∀ w ∈ u_ws RX6 TX6 7, w.before args s = true := fun w hw => hts w ((by decide +kernel : ∀ w ∈ u_ws RX6 TX6 7, w ∈ wsX6_fillMost) w hw)
  have fg_15_5 : hw_FG s args m 15 5 1 := ⟨RX6, "WardWalkers$Planner", RX6, TX6, 7, u_5, hown, rfl, by decide, (hts (.fieldLink RX6 15 "WardWalkers$Planner" "mostFrom" "[I") (by decide +kernel)), (fun _ h9 => h9)⟩
  refine lv_iconst (v := 0) hx hb dX6_fillMost_0 (by decide) ?_
  refine lv_istore_n (lv' := [(1, .int 0), (0, .ref h0)]) hx hb dX6_fillMost_1 rfl hl (by decide) rfl (fun ls hl => ?_)
  have L2 : ∀ (n3 : Nat) (y1_1 : Int32) (hm : (128 - y1_1.toInt).toNat < n3) (g2 : 0 ≤ y1_1.toInt ∧ y1_1.toInt ≤ 128) (H : Heap) (locs : List Loc) (hH : hw_HT D G H) (hS : va_S (hw_AW G [14] s.heap.size) s.heap H locs) (ls : Array Slot) (hl : lv_has ls 5 [(1, .int y1_1), (0, .ref h0)]), W p l e ({ frames := 1, cells := 0, slots := 0, locals := 23 } : Room) s m args below meth c H locs 0 0 QQ (F0 m 2 ls []) := by
    intro n3
    induction n3 with
    | zero => intro y1_1 hm; exact absurd hm (Nat.not_lt_zero _)
    | succ n3 ih2 =>
      intro y1_1 hm g2 H locs hH hS ls hl
      refine lv_iload_n hx hb dX6_fillMost_2 rfl (lv_at hl 0 rfl) ?_
      refine lv_sipush (v := 128) hx hb dX6_fillMost_3 (by decide) ?_
      refine lv_icmp_ge (tgt := 26) hx hb dX6_fillMost_6 (by decide) (fun c4 => ?_) (fun c4 => ?_)
      · have b5 : 128 ≤ y1_1.toInt := hw_ile c4
        refine lv_bipush (v := 6) hx hb dX6_fillMost_26 (by decide) ?_
        refine lv_istore_n (lv' := [(1, .int 6), (0, .ref h0)]) hx hb dX6_fillMost_28 rfl hl (by decide) rfl (fun ls hl => ?_)
        have L29 : ∀ (n8 : Nat) (y1_6 : Int32) (hm : (y1_6.toInt + 1).toNat < n8) (g7 : (-1) ≤ y1_6.toInt ∧ y1_6.toInt ≤ 6) (H : Heap) (locs : List Loc) (hH : hw_HT D G H) (hS : va_S (hw_AW G [14] s.heap.size) s.heap H locs) (ls : Array Slot) (hl : lv_has ls 5 [(1, .int y1_6), (0, .ref h0)]), W p l e ({ frames := 1, cells := 0, slots := 0, locals := 23 } : Room) s m args below meth c H locs 0 0 QQ (F0 m 29 ls []) := by
          intro n8
          induction n8 with
          | zero => intro y1_6 hm; exact absurd hm (Nat.not_lt_zero _)
          | succ n8 ih29 =>
            intro y1_6 hm g7 H locs hH hS ls hl
            refine lv_iload_n hx hb dX6_fillMost_29 rfl (lv_at hl 0 rfl) ?_
            refine lv_if_lt (tgt := 135) hx hb dX6_fillMost_30 (by decide) (fun c9 => ?_) (fun c9 => ?_)
            · have b10 : y1_6.toInt < 0 := hw_ilt c9
              exact hw_vretM hx hb hr hlocks hQ hS (⟨rfl, hH⟩) dX6_fillMost_135
            · have b11 : 0 ≤ y1_6.toInt := hw_inlt c9
              refine lv_iconst (v := 0) hx hb dX6_fillMost_33 (by decide) ?_
              refine lv_istore_n (lv' := [(2, .int 0), (1, .int y1_6), (0, .ref h0)]) hx hb dX6_fillMost_34 rfl hl (by decide) rfl (fun ls hl => ?_)
              have L35 : ∀ (n14 : Nat) (y2_12 : Int32) (hm : (128 - y2_12.toInt).toNat < n14) (g13 : 0 ≤ y2_12.toInt ∧ y2_12.toInt ≤ 128) (H : Heap) (locs : List Loc) (hH : hw_HT D G H) (hS : va_S (hw_AW G [14] s.heap.size) s.heap H locs) (ls : Array Slot) (hl : lv_has ls 5 [(2, .int y2_12), (1, .int y1_6), (0, .ref h0)]), W p l e ({ frames := 1, cells := 0, slots := 0, locals := 23 } : Room) s m args below meth c H locs 0 0 QQ (F0 m 35 ls []) := by
                intro n14
                induction n14 with
                | zero => intro y2_12 hm; exact absurd hm (Nat.not_lt_zero _)
                | succ n14 ih35 =>
                  intro y2_12 hm g13 H locs hH hS ls hl
                  refine lv_iload_n hx hb dX6_fillMost_35 rfl (lv_at hl 0 rfl) ?_
                  refine lv_sipush (v := 128) hx hb dX6_fillMost_36 (by decide) ?_
                  refine lv_icmp_ge (tgt := 129) hx hb dX6_fillMost_39 (by decide) (fun c15 => ?_) (fun c15 => ?_)
                  · have b16 : 128 ≤ y2_12.toInt := hw_ile c15
                    obtain ⟨x17, e18⟩ : ∃ y : Int32, y = y1_6 + (-1) := ⟨_, rfl⟩
                    refine lv_iinc (v := x17) (lv' := [(1, .int x17), (2, .int y2_12), (0, .ref h0)]) hx hb dX6_fillMost_129 hl (k := 1) rfl (by rw [e18]; rfl) (by decide) rfl (fun ls hl => ?_)
                    have t19 : x17.toInt = y1_6.toInt + (-1) := by rw [e18]; exact hw_add rfl rfl (by omega) (by omega)
                    refine lv_goto (tgt := 29) hx hb dX6_fillMost_132 (by decide) ?_
                    exact ih29 x17 (by first | omega | omega) ⟨by first | decide | omega, by first | decide | omega⟩ _ _ hH hS _ (lv_sub hl [0, 2] rfl)
                  · have b20 : y2_12.toInt < 128 := hw_inle c15
                    refine lv_aload_n hx hb dX6_fillMost_42 rfl (lv_at hl 2 rfl) ?_
                    obtain ⟨r21, pa_22, v23, R24⟩ := hH.oP G0
                    refine hw_get hx hb fg_15_5 hK v23 rfl dX6_fillMost_43 ?_
                    refine lv_iload_n hx hb dX6_fillMost_46 rfl (lv_at hl 1 rfl) ?_
                    refine lv_iconst (v := 1) hx hb dX6_fillMost_47 (by decide) ?_
                    refine lv_iadd hx hb dX6_fillMost_48 ?_
                    refine lv_topi (fun x25 e26 => ?_)
                    have t27 : x25.toInt = y1_6.toInt + 1 := by rw [e26]; exact hw_add rfl rfl (by omega) (by omega)
                    refine lv_sipush (v := 128) hx hb dX6_fillMost_49 (by decide) ?_
                    refine lv_imul hx hb dX6_fillMost_52 ?_
                    refine lv_topi (fun x28 e29 => ?_)
                    have t30 : x28.toInt = x25.toInt * 128 := by rw [e29]; exact hw_mul rfl rfl (by omega) (by omega)
                    refine lv_iload_n hx hb dX6_fillMost_53 rfl (lv_at hl 0 rfl) ?_
                    refine lv_iadd hx hb dX6_fillMost_54 ?_
                    refine lv_topi (fun x31 e32 => ?_)
                    have t33 : x31.toInt = x28.toInt + y2_12.toInt := by rw [e32]; exact hw_add rfl rfl (by omega) (by omega)
                    obtain ⟨f34, v35⟩ := hH.a14 (hw_RP_1 R24)
                    refine hw_iald hx hb hK v35 (hw_in (by omega) (by omega)) dX6_fillMost_55 ?_
                    refine lv_topi (fun x37 e38 => ?_)
                    refine lv_istore_n (lv' := [(3, .int x37), (2, .int y2_12), (1, .int y1_6), (0, .ref h0)]) hx hb dX6_fillMost_56 rfl hl (by decide) rfl (fun ls hl => ?_)
                    refine lv_iconst (v := 0) hx hb dX6_fillMost_57 (by decide) ?_
                    refine lv_istore (lv' := [(4, .int 0), (3, .int x37), (2, .int y2_12), (1, .int y1_6), (0, .ref h0)]) hx hb dX6_fillMost_58 hl (by decide) rfl (fun ls hl => ?_)
                    have L60 : ∀ (n42 : Nat) (y4_39 : Int32) (y3_40 : Int32) (hm : (7 - y4_39.toInt).toNat < n42) (g41 : 0 ≤ y4_39.toInt ∧ y4_39.toInt ≤ 7) (H : Heap) (locs : List Loc) (hH : hw_HT D G H) (hS : va_S (hw_AW G [14] s.heap.size) s.heap H locs) (ls : Array Slot) (hl : lv_has ls 5 [(4, .int y4_39), (3, .int y3_40), (2, .int y2_12), (1, .int y1_6), (0, .ref h0)]), W p l e ({ frames := 1, cells := 0, slots := 0, locals := 23 } : Room) s m args below meth c H locs 0 0 QQ (F0 m 60 ls []) := by
                      intro n42
                      induction n42 with
                      | zero => intro y4_39 y3_40 hm; exact absurd hm (Nat.not_lt_zero _)
                      | succ n42 ih60 =>
                        intro y4_39 y3_40 hm g41 H locs hH hS ls hl
                        refine lv_iload hx hb dX6_fillMost_60 (lv_at hl 0 rfl) ?_
                        refine lv_bipush (v := 7) hx hb dX6_fillMost_62 (by decide) ?_
                        refine lv_icmp_ge (tgt := 110) hx hb dX6_fillMost_64 (by decide) (fun c43 => ?_) (fun c43 => ?_)
                        · have b44 : 7 ≤ y4_39.toInt := hw_ile c43
                          refine lv_aload_n hx hb dX6_fillMost_110 rfl (lv_at hl 4 rfl) ?_
                          obtain ⟨r45, pa_46, v47, R48⟩ := hH.oP G0
                          refine hw_get hx hb fg_15_5 hK v47 rfl dX6_fillMost_111 ?_
                          refine lv_iload_n hx hb dX6_fillMost_114 rfl (lv_at hl 3 rfl) ?_
                          refine lv_sipush (v := 128) hx hb dX6_fillMost_115 (by decide) ?_
                          refine lv_imul hx hb dX6_fillMost_118 ?_
                          refine lv_topi (fun x49 e50 => ?_)
                          have t51 : x49.toInt = y1_6.toInt * 128 := by rw [e50]; exact hw_mul rfl rfl (by omega) (by omega)
                          refine lv_iload_n hx hb dX6_fillMost_119 rfl (lv_at hl 2 rfl) ?_
                          refine lv_iadd hx hb dX6_fillMost_120 ?_
                          refine lv_topi (fun x52 e53 => ?_)
                          have t54 : x52.toInt = x49.toInt + y2_12.toInt := by rw [e53]; exact hw_add rfl rfl (by omega) (by omega)
                          refine lv_iload_n hx hb dX6_fillMost_121 rfl (lv_at hl 1 rfl) ?_
                          obtain ⟨f55, v56⟩ := hH.a14 (hw_RP_1 R48)
                          refine hw_iast hx hb hK hH v56 (hw_in (by omega) (by omega)) (fun _ => by rw [(hw_RP_1 R48)]; exact ⟨_, rfl⟩) hS (hw_AWi (hw_RP_1 R48) (by decide)) dX6_fillMost_122 (fun H locs hH v56 oq hz hS => ?_)
                          have v47 := va_at.kept v47 (oq _ (hw_ne G0 (hw_RP_1 R48) (by decide)))
                          obtain ⟨x58, e59⟩ : ∃ y : Int32, y = y2_12 + 1 := ⟨_, rfl⟩
                          refine lv_iinc (v := x58) (lv' := [(2, .int x58), (4, .int y4_39), (3, .int y3_40), (1, .int y1_6), (0, .ref h0)]) hx hb dX6_fillMost_123 hl (k := 2) rfl (by rw [e59]; rfl) (by decide) rfl (fun ls hl => ?_)
                          have t60 : x58.toInt = y2_12.toInt + 1 := by rw [e59]; exact hw_add rfl rfl (by omega) (by omega)
                          refine lv_goto (tgt := 35) hx hb dX6_fillMost_126 (by decide) ?_
                          exact ih35 x58 (by first | omega | omega) ⟨by first | decide | omega, by first | decide | omega⟩ _ _ hH hS _ (lv_sub hl [0, 3, 4] rfl)
                        · have b61 : y4_39.toInt < 7 := hw_inle c43
                          refine lv_aload_n hx hb dX6_fillMost_67 rfl (lv_at hl 4 rfl) ?_
                          refine lv_iload hx hb dX6_fillMost_68 (lv_at hl 0 rfl) ?_
                          refine lv_iload_n hx hb dX6_fillMost_70 rfl (lv_at hl 3 rfl) ?_
                          refine lv_iload_n hx hb dX6_fillMost_71 rfl (lv_at hl 2 rfl) ?_
                          obtain ⟨r62, pa_63, v64, R65⟩ := hH.oP G0
                          refine hw_cR (va_runV (As := [.int y4_39, .int y1_6, .int y2_12]) (rest := []) ⟨hx, hb, hml, hown, hts⟩ (k_X6_isFree l D G h0 y4_39 y1_6 y2_12 _ G0 (by first | assumption | decide | omega)) (cwV 3 hts gX6_fillMost_X6_isFree rfl rfl rfl (by decide +kernel) ⟨Nat.le_of_ble_eq_true rfl, Nat.le_of_ble_eq_true rfl⟩) (hw_pV (hw_rc (q := (RX6, TX6, 7)) hK v64 rfl) hH hK hST hS (by decide) (fun _ h => Or.inl h) trivial) rfl rfl hl.1 rfl (lv_room (Nat.le_of_ble_eq_true rfl)) dX6_fillMost_72 ⟨Nat.le_of_ble_eq_true rfl, Nat.le_of_ble_eq_true rfl⟩) (fun v hp => ?_)
                          rcases hp with rfl | rfl
                          · refine lv_if_eq (tgt := 104) hx hb dX6_fillMost_75 (by decide) (fun c66 => ?_) (fun c66 => ?_)
                            · exact absurd c66 (by decide)
                            · refine lv_iload_n hx hb dX6_fillMost_78 rfl (lv_at hl 1 rfl) ?_
                              refine lv_iconst (v := 1) hx hb dX6_fillMost_79 (by decide) ?_
                              refine lv_aload_n hx hb dX6_fillMost_80 rfl (lv_at hl 4 rfl) ?_
                              refine hw_get hx hb fg_15_5 hK v64 rfl dX6_fillMost_81 ?_
                              refine lv_iload_n hx hb dX6_fillMost_84 rfl (lv_at hl 3 rfl) ?_
                              refine lv_iconst (v := 1) hx hb dX6_fillMost_85 (by decide) ?_
                              refine lv_iadd hx hb dX6_fillMost_86 ?_
                              refine lv_topi (fun x67 e68 => ?_)
                              have t69 : x67.toInt = y1_6.toInt + 1 := by rw [e68]; exact hw_add rfl rfl (by omega) (by omega)
                              refine lv_sipush (v := 128) hx hb dX6_fillMost_87 (by decide) ?_
                              refine lv_imul hx hb dX6_fillMost_90 ?_
                              refine lv_topi (fun x70 e71 => ?_)
                              have t72 : x70.toInt = x67.toInt * 128 := by rw [e71]; exact hw_mul rfl rfl (by omega) (by omega)
                              refine lv_iload_n hx hb dX6_fillMost_91 rfl (lv_at hl 2 rfl) ?_
                              refine lv_iconst (v := 1) hx hb dX6_fillMost_92 (by decide) ?_
                              refine lv_iload hx hb dX6_fillMost_93 (lv_at hl 0 rfl) ?_
                              refine lv_ishl hx hb dX6_fillMost_95 ?_
                              refine lv_topi (fun x73 e74 => ?_)
                              have t75 : 1 ≤ x73.toInt ∧ x73.toInt ≤ 64 := by rw [e74]; exact hw_sh1b 6 (by decide) (by first | decide | omega) (by first | decide | omega)
                              refine lv_ior hx hb dX6_fillMost_96 ?_
                              refine lv_topi (fun x76 e77 => ?_)
                              have t78 : 0 ≤ x76.toInt ∧ x76.toInt < 128 := by rw [e77]; exact hw_ior (k := 7) (by decide) (by first | decide | omega) (by first | decide | omega) (by first | decide | omega) (by first | decide | omega)
                              refine lv_iadd hx hb dX6_fillMost_97 ?_
                              refine lv_topi (fun x79 e80 => ?_)
                              have t81 : x79.toInt = x70.toInt + x76.toInt := by rw [e80]; exact hw_add rfl rfl (by omega) (by omega)
                              obtain ⟨f82, v83⟩ := hH.a14 (hw_RP_1 R65)
                              refine hw_iald hx hb hK v83 (hw_in (by omega) (by omega)) dX6_fillMost_98 ?_
                              refine lv_topi (fun x85 e86 => ?_)
                              refine lv_iadd hx hb dX6_fillMost_99 ?_
                              refine lv_topi (fun x87 e88 => ?_)
                              refine va_mmax hx hb (hml.trans hl.1.symm) hown (hts (.methodLink RX6 45 Lib.Math.max.name) (by decide +kernel)) (hts (.static Lib.Math.max.name) (by decide +kernel)) (hts (.initialized "java/lang/Math") (by decide +kernel)) (hts (.code Lib.Math.max.name Lib.Math.max.code 2 (some .int)) (by decide +kernel)) (Nat.le_of_ble_eq_true rfl) (Nat.le_of_ble_eq_true rfl) (Nat.le_of_ble_eq_true rfl) (Nat.le_of_ble_eq_true rfl) dX6_fillMost_100 ?_
                              refine lv_topi (fun x89 e90 => ?_)
                              have t91 : x89.toInt = max y3_40.toInt x87.toInt := by rw [e90]; exact hw_max rfl rfl
                              refine lv_istore_n (lv' := [(3, .int x89), (4, .int y4_39), (2, .int y2_12), (1, .int y1_6), (0, .ref h0)]) hx hb dX6_fillMost_103 rfl hl (by decide) rfl (fun ls hl => ?_)
                              obtain ⟨x92, e93⟩ : ∃ y : Int32, y = y4_39 + 1 := ⟨_, rfl⟩
                              refine lv_iinc (v := x92) (lv' := [(4, .int x92), (3, .int x89), (2, .int y2_12), (1, .int y1_6), (0, .ref h0)]) hx hb dX6_fillMost_104 hl (k := 1) rfl (by rw [e93]; rfl) (by decide) rfl (fun ls hl => ?_)
                              have t94 : x92.toInt = y4_39.toInt + 1 := by rw [e93]; exact hw_add rfl rfl (by omega) (by omega)
                              refine lv_goto (tgt := 60) hx hb dX6_fillMost_107 (by decide) ?_
                              exact ih60 x92 x89 (by first | omega | omega) ⟨by first | decide | omega, by first | decide | omega⟩ _ _ hH hS _ (lv_sub hl [0, 1, 2, 3, 4] rfl)
                          · refine lv_if_eq (tgt := 104) hx hb dX6_fillMost_75 (by decide) (fun c95 => ?_) (fun c95 => ?_)
                            · obtain ⟨x96, e97⟩ : ∃ y : Int32, y = y4_39 + 1 := ⟨_, rfl⟩
                              refine lv_iinc (v := x96) (lv' := [(4, .int x96), (3, .int y3_40), (2, .int y2_12), (1, .int y1_6), (0, .ref h0)]) hx hb dX6_fillMost_104 hl (k := 0) rfl (by rw [e97]; rfl) (by decide) rfl (fun ls hl => ?_)
                              have t98 : x96.toInt = y4_39.toInt + 1 := by rw [e97]; exact hw_add rfl rfl (by omega) (by omega)
                              refine lv_goto (tgt := 60) hx hb dX6_fillMost_107 (by decide) ?_
                              exact ih60 x96 y3_40 (by first | omega | omega) ⟨by first | decide | omega, by first | decide | omega⟩ _ _ hH hS _ (lv_sub hl [0, 1, 2, 3, 4] rfl)
                            · exact absurd c95 (by decide)
                    exact L60 _ 0 x37 (Nat.lt_succ_self _) ⟨by first | decide | omega, by first | decide | omega⟩ _ _ hH hS _ (lv_sub hl [0, 1, 2, 3, 4] rfl)
              exact L35 _ 0 (Nat.lt_succ_self _) ⟨by first | decide | omega, by first | decide | omega⟩ _ _ hH hS _ (lv_sub hl [0, 1, 2] rfl)
        exact L29 _ 6 (Nat.lt_succ_self _) ⟨by first | decide | omega, by first | decide | omega⟩ _ _ hH hS _ (lv_sub hl [0, 1] rfl)
      · have b99 : y1_1.toInt < 128 := hw_inle c4
        refine lv_aload_n hx hb dX6_fillMost_9 rfl (lv_at hl 1 rfl) ?_
        obtain ⟨r100, pa_101, v102, R103⟩ := hH.oP G0
        refine hw_get hx hb fg_15_5 hK v102 rfl dX6_fillMost_10 ?_
        refine lv_sipush (v := 896) hx hb dX6_fillMost_13 (by decide) ?_
        refine lv_iload_n hx hb dX6_fillMost_16 rfl (lv_at hl 0 rfl) ?_
        refine lv_iadd hx hb dX6_fillMost_17 ?_
        refine lv_topi (fun x104 e105 => ?_)
        have t106 : x104.toInt = 896 + y1_1.toInt := by rw [e105]; exact hw_add rfl rfl (by omega) (by omega)
        refine lv_iconst (v := 0) hx hb dX6_fillMost_18 (by decide) ?_
        obtain ⟨f107, v108⟩ := hH.a14 (hw_RP_1 R103)
        refine hw_iast hx hb hK hH v108 (hw_in (by omega) (by omega)) (fun _ => by rw [(hw_RP_1 R103)]; exact ⟨_, rfl⟩) hS (hw_AWi (hw_RP_1 R103) (by decide)) dX6_fillMost_19 (fun H locs hH v108 oq hz hS => ?_)
        have v102 := va_at.kept v102 (oq _ (hw_ne G0 (hw_RP_1 R103) (by decide)))
        obtain ⟨x110, e111⟩ : ∃ y : Int32, y = y1_1 + 1 := ⟨_, rfl⟩
        refine lv_iinc (v := x110) (lv' := [(1, .int x110), (0, .ref h0)]) hx hb dX6_fillMost_20 hl (k := 0) rfl (by rw [e111]; rfl) (by decide) rfl (fun ls hl => ?_)
        have t112 : x110.toInt = y1_1.toInt + 1 := by rw [e111]; exact hw_add rfl rfl (by omega) (by omega)
        refine lv_goto (tgt := 2) hx hb dX6_fillMost_23 (by decide) ?_
        exact ih2 x110 (by first | omega | omega) ⟨by first | decide | omega, by first | decide | omega⟩ _ _ hH hS _ (lv_sub hl [0, 1] rfl)
  exact L2 _ 0 (Nat.lt_succ_self _) ⟨by first | decide | omega, by first | decide | omega⟩ _ _ hH hS _ (lv_sub hl [0, 1] rfl)

set_option maxHeartbeats 4000000 in
set_option maxRecDepth 100000 in
theorem k_X6_firstKeyFor (l : Launch) (D : hw_D) (G : Nat → Nat) (h0 : Nat) (p1 : Int32) (p2 : Int32) (sz : Nat) (G0 : G h0 = 5) (hl1 : 0 ≤ p1.toInt ∧ p1.toInt < 7) (hu : 0 ≤ p2.toInt ∧ p2.toInt < 128) : Met l yX6_firstKeyFor wsX6_firstKeyFor ({ frames := 1, cells := 0, slots := 0, locals := 23 } : Room) (hw_PC D G [.ref h0, .int p1, .int p2] sz (fun H => True)) (hw_QR (fun v => ∃ (r : Int32), v = .int r ∧ ((-1) ≤ r.toInt ∧ r.toInt ≤ 6))) 0 0 (fun _ => False) := by
  refine hw_met (cc := cX6_firstKeyFor) (maxL := 4) (ret := (some .int)) (plainFor_of_name (by decide)) rfl (Nat.le_of_ble_eq_true rfl) ?_
  intro p e s m args below meth c QQ ls hsz hx hb hml hr hts hown hlocks hnm hH hK hST hF hQ hl
  subst hsz
  have hS : va_S (hw_AW G [] s.heap.size) s.heap s.heap [] := va_S.rf
  have hl : lv_has ls 4 [(0, .ref h0), (1, .int p1), (2, .int p2)] := hl
  have u_5 : ∀ w ∈ u_ws RX6 TX6 7, w.before args s = true := fun w hw => hts w ((by decide +kernel : ∀ w ∈ u_ws RX6 TX6 7, w ∈ wsX6_firstKeyFor) w hw)
  have fg_15_5 : hw_FG s args m 15 5 1 := ⟨RX6, "WardWalkers$Planner", RX6, TX6, 7, u_5, hown, rfl, by decide, (hts (.fieldLink RX6 15 "WardWalkers$Planner" "mostFrom" "[I") (by decide +kernel)), (fun _ h9 => h9)⟩
  refine lv_iconst (v := 0) hx hb dX6_firstKeyFor_0 (by decide) ?_
  refine lv_istore_n (lv' := [(3, .int 0), (0, .ref h0), (1, .int p1), (2, .int p2)]) hx hb dX6_firstKeyFor_1 rfl hl (by decide) rfl (fun ls hl => ?_)
  have L2 : ∀ (n3 : Nat) (y3_1 : Int32) (hm : (7 - y3_1.toInt).toNat < n3) (g2 : 0 ≤ y3_1.toInt ∧ y3_1.toInt ≤ 7) (ls : Array Slot) (hl : lv_has ls 4 [(3, .int y3_1), (0, .ref h0), (1, .int p1), (2, .int p2)]), W p l e ({ frames := 1, cells := 0, slots := 0, locals := 23 } : Room) s m args below meth c s.heap [] 0 0 QQ (F0 m 2 ls []) := by
    intro n3
    induction n3 with
    | zero => intro y3_1 hm; exact absurd hm (Nat.not_lt_zero _)
    | succ n3 ih2 =>
      intro y3_1 hm g2 ls hl
      refine lv_iload_n hx hb dX6_firstKeyFor_2 rfl (lv_at hl 0 rfl) ?_
      refine lv_bipush (v := 7) hx hb dX6_firstKeyFor_3 (by decide) ?_
      refine lv_icmp_ge (tgt := 61) hx hb dX6_firstKeyFor_5 (by decide) (fun c4 => ?_) (fun c4 => ?_)
      · have b5 : 7 ≤ y3_1.toInt := hw_ile c4
        refine lv_iconst (v := (-1)) hx hb dX6_firstKeyFor_61 (by decide) ?_
        exact hw_iretR (v := (-1)) hx hb hr hlocks hQ rfl (⟨(-1), rfl, ⟨by first | decide | omega, by first | decide | omega⟩⟩) dX6_firstKeyFor_62
      · have b6 : y3_1.toInt < 7 := hw_inle c4
        refine lv_aload_n hx hb dX6_firstKeyFor_8 rfl (lv_at hl 1 rfl) ?_
        refine lv_iload_n hx hb dX6_firstKeyFor_9 rfl (lv_at hl 0 rfl) ?_
        refine lv_iload_n hx hb dX6_firstKeyFor_10 rfl (lv_at hl 2 rfl) ?_
        refine lv_iload_n hx hb dX6_firstKeyFor_11 rfl (lv_at hl 3 rfl) ?_
        obtain ⟨r7, pa_8, v9, R10⟩ := hH.oP G0
        refine hw_cR (va_runV (As := [.int y3_1, .int p1, .int p2]) (rest := []) ⟨hx, hb, hml, hown, hts⟩ (k_X6_isFree l D G h0 y3_1 p1 p2 _ G0 (by first | assumption | decide | omega)) (cwV 3 hts gX6_firstKeyFor_X6_isFree rfl rfl rfl (by decide +kernel) ⟨Nat.le_of_ble_eq_true rfl, Nat.le_of_ble_eq_true rfl⟩) (hw_pV (hw_rc (q := (RX6, TX6, 7)) hK v9 rfl) hH hK hST hS (by decide) (fun _ h => Or.inl h) trivial) rfl rfl hl.1 rfl (lv_room (Nat.le_of_ble_eq_true rfl)) dX6_firstKeyFor_12 ⟨Nat.le_of_ble_eq_true rfl, Nat.le_of_ble_eq_true rfl⟩) (fun v hp => ?_)
        rcases hp with rfl | rfl
        · refine lv_if_eq (tgt := 55) hx hb dX6_firstKeyFor_15 (by decide) (fun c11 => ?_) (fun c11 => ?_)
          · exact absurd c11 (by decide)
          · refine lv_iconst (v := 1) hx hb dX6_firstKeyFor_18 (by decide) ?_
            refine lv_aload_n hx hb dX6_firstKeyFor_19 rfl (lv_at hl 1 rfl) ?_
            refine hw_get hx hb fg_15_5 hK v9 rfl dX6_firstKeyFor_20 ?_
            refine lv_iload_n hx hb dX6_firstKeyFor_23 rfl (lv_at hl 2 rfl) ?_
            refine lv_iconst (v := 1) hx hb dX6_firstKeyFor_24 (by decide) ?_
            refine lv_iadd hx hb dX6_firstKeyFor_25 ?_
            refine lv_topi (fun x12 e13 => ?_)
            have t14 : x12.toInt = p1.toInt + 1 := by rw [e13]; exact hw_add rfl rfl (by omega) (by omega)
            refine lv_sipush (v := 128) hx hb dX6_firstKeyFor_26 (by decide) ?_
            refine lv_imul hx hb dX6_firstKeyFor_29 ?_
            refine lv_topi (fun x15 e16 => ?_)
            have t17 : x15.toInt = x12.toInt * 128 := by rw [e16]; exact hw_mul rfl rfl (by omega) (by omega)
            refine lv_iload_n hx hb dX6_firstKeyFor_30 rfl (lv_at hl 3 rfl) ?_
            refine lv_iconst (v := 1) hx hb dX6_firstKeyFor_31 (by decide) ?_
            refine lv_iload_n hx hb dX6_firstKeyFor_32 rfl (lv_at hl 0 rfl) ?_
            refine lv_ishl hx hb dX6_firstKeyFor_33 ?_
            refine lv_topi (fun x18 e19 => ?_)
            have t20 : 1 ≤ x18.toInt ∧ x18.toInt ≤ 64 := by rw [e19]; exact hw_sh1b 6 (by decide) (by first | decide | omega) (by first | decide | omega)
            refine lv_ior hx hb dX6_firstKeyFor_34 ?_
            refine lv_topi (fun x21 e22 => ?_)
            have t23 : 0 ≤ x21.toInt ∧ x21.toInt < 128 := by rw [e22]; exact hw_ior (k := 7) (by decide) (by first | decide | omega) (by first | decide | omega) (by first | decide | omega) (by first | decide | omega)
            refine lv_iadd hx hb dX6_firstKeyFor_35 ?_
            refine lv_topi (fun x24 e25 => ?_)
            have t26 : x24.toInt = x15.toInt + x21.toInt := by rw [e25]; exact hw_add rfl rfl (by omega) (by omega)
            obtain ⟨f27, v28⟩ := hH.a14 (hw_RP_1 R10)
            refine hw_iald hx hb hK v28 (hw_in (by omega) (by omega)) dX6_firstKeyFor_36 ?_
            refine lv_topi (fun x30 e31 => ?_)
            refine lv_iadd hx hb dX6_firstKeyFor_37 ?_
            refine lv_topi (fun x32 e33 => ?_)
            refine lv_aload_n hx hb dX6_firstKeyFor_38 rfl (lv_at hl 1 rfl) ?_
            refine hw_get hx hb fg_15_5 hK v9 rfl dX6_firstKeyFor_39 ?_
            refine lv_iload_n hx hb dX6_firstKeyFor_42 rfl (lv_at hl 2 rfl) ?_
            refine lv_sipush (v := 128) hx hb dX6_firstKeyFor_43 (by decide) ?_
            refine lv_imul hx hb dX6_firstKeyFor_46 ?_
            refine lv_topi (fun x34 e35 => ?_)
            have t36 : x34.toInt = p1.toInt * 128 := by rw [e35]; exact hw_mul rfl rfl (by omega) (by omega)
            refine lv_iload_n hx hb dX6_firstKeyFor_47 rfl (lv_at hl 3 rfl) ?_
            refine lv_iadd hx hb dX6_firstKeyFor_48 ?_
            refine lv_topi (fun x37 e38 => ?_)
            have t39 : x37.toInt = x34.toInt + p2.toInt := by rw [e38]; exact hw_add rfl rfl (by omega) (by omega)
            obtain ⟨f40, v41⟩ := hH.a14 (hw_RP_1 R10)
            refine hw_iald hx hb hK v41 (hw_in (by omega) (by omega)) dX6_firstKeyFor_49 ?_
            refine lv_topi (fun x43 e44 => ?_)
            refine lv_icmp_ne (tgt := 55) hx hb dX6_firstKeyFor_50 (by decide) (fun c45 => ?_) (fun c45 => ?_)
            · have b46 : x32.toInt ≠ x43.toInt := hw_ine c45
              obtain ⟨x47, e48⟩ : ∃ y : Int32, y = y3_1 + 1 := ⟨_, rfl⟩
              refine lv_iinc (v := x47) (lv' := [(3, .int x47), (0, .ref h0), (1, .int p1), (2, .int p2)]) hx hb dX6_firstKeyFor_55 hl (k := 0) rfl (by rw [e48]; rfl) (by decide) rfl (fun ls hl => ?_)
              have t49 : x47.toInt = y3_1.toInt + 1 := by rw [e48]; exact hw_add rfl rfl (by omega) (by omega)
              refine lv_goto (tgt := 2) hx hb dX6_firstKeyFor_58 (by decide) ?_
              exact ih2 x47 (by first | omega | omega) ⟨by first | decide | omega, by first | decide | omega⟩ _ (lv_sub hl [0, 1, 2, 3] rfl)
            · have b50 : x32.toInt = x43.toInt := hw_ieq c45
              refine lv_iload_n hx hb dX6_firstKeyFor_53 rfl (lv_at hl 0 rfl) ?_
              exact hw_iretR (v := y3_1) hx hb hr hlocks hQ rfl (⟨y3_1, rfl, ⟨by first | decide | omega, by first | decide | omega⟩⟩) dX6_firstKeyFor_54
        · refine lv_if_eq (tgt := 55) hx hb dX6_firstKeyFor_15 (by decide) (fun c51 => ?_) (fun c51 => ?_)
          · obtain ⟨x52, e53⟩ : ∃ y : Int32, y = y3_1 + 1 := ⟨_, rfl⟩
            refine lv_iinc (v := x52) (lv' := [(3, .int x52), (0, .ref h0), (1, .int p1), (2, .int p2)]) hx hb dX6_firstKeyFor_55 hl (k := 0) rfl (by rw [e53]; rfl) (by decide) rfl (fun ls hl => ?_)
            have t54 : x52.toInt = y3_1.toInt + 1 := by rw [e53]; exact hw_add rfl rfl (by omega) (by omega)
            refine lv_goto (tgt := 2) hx hb dX6_firstKeyFor_58 (by decide) ?_
            exact ih2 x52 (by first | omega | omega) ⟨by first | decide | omega, by first | decide | omega⟩ _ (lv_sub hl [0, 1, 2, 3] rfl)
          · exact absurd c51 (by decide)
  exact L2 _ 0 (Nat.lt_succ_self _) ⟨by first | decide | omega, by first | decide | omega⟩ _ (lv_sub hl [0, 1, 2, 3] rfl)

set_option maxHeartbeats 4000000 in
set_option maxRecDepth 100000 in
theorem k_X6_pairUp (l : Launch) (D : hw_D) (G : Nat → Nat) (h0 : Nat) (sz : Nat) (G0 : G h0 = 5) : Met l yX6_pairUp wsX6_pairUp ({ frames := 2, cells := 0, slots := 0, locals := 47 } : Room) (hw_PC D G [.ref h0] sz (fun H => True)) (hw_QM (fun v H => v = none ∧ hw_HT D G H) (hw_AW G [5, 14, 15] sz)) 0 0 (hw_AW G [5, 14, 15] sz) := by
  refine hw_met (cc := cX6_pairUp) (maxL := 3) (ret := none) (plainFor_of_name (by decide)) rfl (Nat.le_of_ble_eq_true rfl) ?_
  intro p e s m args below meth c QQ ls hsz hx hb hml hr hts hown hlocks hnm hH hK hST hF hQ hl
  subst hsz
  have hS : va_S (hw_AW G [5, 14, 15] s.heap.size) s.heap s.heap [] := va_S.rf
  have hl : lv_has ls 3 [(0, .ref h0)] := hl
  have u_5 : ∀ w ∈ u_ws RX6 TX6 7, w.before args s = true := fun w hw => hts w ((by decide +kernel : ∀ w ∈ u_ws RX6 TX6 7, w ∈ wsX6_pairUp) w hw)
  have fg_15_5 : hw_FG s args m 15 5 1 := ⟨RX6, "WardWalkers$Planner", RX6, TX6, 7, u_5, hown, rfl, by decide, (hts (.fieldLink RX6 15 "WardWalkers$Planner" "mostFrom" "[I") (by decide +kernel)), (fun _ h9 => h9)⟩
  have fp_33_5 : hw_FP s args m 33 5 3 false .int := ⟨RX6, "WardWalkers$Planner", RX6, TX6, 7, tyX6, u_5, hown, rfl, by decide, (hts (.fieldLink RX6 33 "WardWalkers$Planner" "pairs" "I") (by decide +kernel)), (fun _ h9 => h9), tyX6_ok, nmX6, rfl, (fun h => by cases h), by decide +kernel⟩
  have fg_18_5 : hw_FG s args m 18 5 2 := ⟨RX6, "WardWalkers$Planner", RX6, TX6, 7, u_5, hown, rfl, by decide, (hts (.fieldLink RX6 18 "WardWalkers$Planner" "chosen" "[I") (by decide +kernel)), (fun _ h9 => h9)⟩
  refine lv_aload_n hx hb dX6_pairUp_0 rfl (lv_at hl 0 rfl) ?_
  obtain ⟨r1, pa_2, v3, R4⟩ := hH.oP G0
  refine hw_cM0 (va_runV (As := []) (rest := []) ⟨hx, hb, hml, hown, hts⟩ (k_X6_fillMost l D G h0 _ G0) (cwV 0 hts gX6_pairUp_X6_fillMost rfl rfl rfl (by decide +kernel) ⟨Nat.le_of_ble_eq_true rfl, Nat.le_of_ble_eq_true rfl⟩) (hw_pV (hw_rc (q := (RX6, TX6, 7)) hK v3 rfl) hH hK hST hS (by decide) (fun _ h => Or.inl h) trivial) rfl rfl hl.1 rfl (lv_room (Nat.le_of_ble_eq_true rfl)) dX6_pairUp_1 ⟨Nat.le_of_ble_eq_true rfl, Nat.le_of_ble_eq_true rfl⟩) hS (hw_AWsub (by decide) (fun _ _ => rfl) hS.1) (fun v H locs hp hz hk hS => ?_)
  obtain ⟨rfl, hH⟩ := hp
  have v3 := va_at.kept v3 (hk _ (hw_lt v3) (hw_AWn G0 (by decide) (hw_lt v3)))
  refine lv_aload_n hx hb dX6_pairUp_4 rfl (lv_at hl 0 rfl) ?_
  refine lv_aload_n hx hb dX6_pairUp_5 rfl (lv_at hl 0 rfl) ?_
  refine hw_get hx hb fg_15_5 hK v3 rfl dX6_pairUp_6 ?_
  refine lv_iconst (v := 0) hx hb dX6_pairUp_9 (by decide) ?_
  obtain ⟨f5, v6⟩ := hH.a14 (hw_RP_1 R4)
  refine hw_iald hx hb hK v6 (hw_in (x := 0) (by decide) (by decide)) dX6_pairUp_10 ?_
  refine lv_topi (fun x8 e9 => ?_)
  refine hw_put (v := .int x8) (fs' := hw_LP r1 x8) hx hb fp_33_5 hK hH v3 (Nat.le_of_ble_eq_true rfl) rfl rfl rfl (fun _ => by rw [G0]; exact ⟨r1, x8, rfl, R4⟩) hS (hw_AWi G0 (by decide)) dX6_pairUp_11 (fun H locs hH v3 oq hz hS => ?_)
  refine lv_iconst (v := 0) hx hb dX6_pairUp_14 (by decide) ?_
  refine lv_istore_n (lv' := [(1, .int 0), (0, .ref h0)]) hx hb dX6_pairUp_15 rfl hl (by decide) rfl (fun ls hl => ?_)
  refine lv_iconst (v := 0) hx hb dX6_pairUp_16 (by decide) ?_
  refine lv_istore_n (lv' := [(2, .int 0), (1, .int 0), (0, .ref h0)]) hx hb dX6_pairUp_17 rfl hl (by decide) rfl (fun ls hl => ?_)
  have L18 : ∀ (n14 : Nat) (y2_10 : Int32) (y1_11 : Int32) (hm : (7 - y2_10.toInt).toNat < n14) (g12 : 0 ≤ y1_11.toInt ∧ y1_11.toInt ≤ 127) (g13 : 0 ≤ y2_10.toInt ∧ y2_10.toInt ≤ 7) (H : Heap) (locs : List Loc) (hH : hw_HT D G H) (hS : va_S (hw_AW G [5, 14, 15] s.heap.size) s.heap H locs) (ls : Array Slot) (hl : lv_has ls 3 [(2, .int y2_10), (1, .int y1_11), (0, .ref h0)]), W p l e ({ frames := 2, cells := 0, slots := 0, locals := 47 } : Room) s m args below meth c H locs 0 0 QQ (F0 m 18 ls []) := by
    intro n14
    induction n14 with
    | zero => intro y2_10 y1_11 hm; exact absurd hm (Nat.not_lt_zero _)
    | succ n14 ih18 =>
      intro y2_10 y1_11 hm g12 g13 H locs hH hS ls hl
      refine lv_iload_n hx hb dX6_pairUp_18 rfl (lv_at hl 0 rfl) ?_
      refine lv_bipush (v := 7) hx hb dX6_pairUp_19 (by decide) ?_
      refine lv_icmp_ge (tgt := 63) hx hb dX6_pairUp_21 (by decide) (fun c15 => ?_) (fun c15 => ?_)
      · have b16 : 7 ≤ y2_10.toInt := hw_ile c15
        exact hw_vretM hx hb hr hlocks hQ hS (⟨rfl, hH⟩) dX6_pairUp_63
      · have b17 : y2_10.toInt < 7 := hw_inle c15
        refine lv_aload_n hx hb dX6_pairUp_24 rfl (lv_at hl 2 rfl) ?_
        obtain ⟨r18, pa_19, v20, R21⟩ := hH.oP G0
        refine hw_get hx hb fg_18_5 hK v20 rfl dX6_pairUp_25 ?_
        refine lv_iload_n hx hb dX6_pairUp_28 rfl (lv_at hl 0 rfl) ?_
        refine lv_aload_n hx hb dX6_pairUp_29 rfl (lv_at hl 2 rfl) ?_
        refine lv_iload_n hx hb dX6_pairUp_30 rfl (lv_at hl 0 rfl) ?_
        refine lv_iload_n hx hb dX6_pairUp_31 rfl (lv_at hl 1 rfl) ?_
        refine hw_cR (va_runV (As := [.int y2_10, .int y1_11]) (rest := [.int y2_10, .ref (r18 2)]) ⟨hx, hb, hml, hown, hts⟩ (k_X6_firstKeyFor l D G h0 y2_10 y1_11 _ G0 (by first | assumption | decide | omega) (by first | assumption | decide | omega)) (cwV 2 hts gX6_pairUp_X6_firstKeyFor rfl rfl rfl (by decide +kernel) ⟨Nat.le_of_ble_eq_true rfl, Nat.le_of_ble_eq_true rfl⟩) (hw_pV (hw_rc (q := (RX6, TX6, 7)) hK v20 rfl) hH hK hST hS (by decide) (fun _ h => Or.inl h) trivial) rfl rfl hl.1 rfl (lv_room (Nat.le_of_ble_eq_true rfl)) dX6_pairUp_32 ⟨Nat.le_of_ble_eq_true rfl, Nat.le_of_ble_eq_true rfl⟩) (fun v hp => ?_)
        obtain ⟨x22, rfl, g23⟩ := hp
        obtain ⟨f24, v25, q26⟩ := hH.a15 (hw_RP_2 R21)
        refine hw_iast hx hb hK hH v25 (hw_in (by omega) (by omega)) (fun _ => by rw [(hw_RP_2 R21)]; refine ⟨_, rfl, fun j hj => ?_⟩; unfold upd; split; exact ⟨by first | decide | omega, by first | decide | omega⟩; exact q26 j hj) hS (hw_AWi (hw_RP_2 R21) (by decide)) dX6_pairUp_35 (fun H locs hH v25 oq hz hS => ?_)
        have v20 := va_at.kept v20 (oq _ (hw_ne G0 (hw_RP_2 R21) (by decide)))
        obtain ⟨f27, v28, q29⟩ := hH.a15 (hw_RP_2 R21)
        refine lv_aload_n hx hb dX6_pairUp_36 rfl (lv_at hl 2 rfl) ?_
        refine hw_get hx hb fg_18_5 hK v20 rfl dX6_pairUp_37 ?_
        refine lv_iload_n hx hb dX6_pairUp_40 rfl (lv_at hl 0 rfl) ?_
        refine hw_iald hx hb hK v28 (hw_in (by omega) (by omega)) dX6_pairUp_41 ?_
        refine lv_topi (fun x30 e31 => ?_)
        have n33 : vp_in y2_10 7 := (hw_in (by omega) (by omega))
        have t32 : (-1) ≤ x30.toInt ∧ x30.toInt ≤ 6 := by rw [e31]; exact q29 _ (Nat.not_le.mp fun q => n33 (Or.inr q))
        refine lv_iconst (v := (-1)) hx hb dX6_pairUp_42 (by decide) ?_
        refine lv_icmp_eq (tgt := 57) hx hb dX6_pairUp_43 (by decide) (fun c34 => ?_) (fun c34 => ?_)
        · have b35 : x30.toInt = (-1) := hw_ieq c34
          obtain ⟨x36, e37⟩ : ∃ y : Int32, y = y2_10 + 1 := ⟨_, rfl⟩
          refine lv_iinc (v := x36) (lv' := [(2, .int x36), (1, .int y1_11), (0, .ref h0)]) hx hb dX6_pairUp_57 hl (k := 0) rfl (by rw [e37]; rfl) (by decide) rfl (fun ls hl => ?_)
          have t38 : x36.toInt = y2_10.toInt + 1 := by rw [e37]; exact hw_add rfl rfl (by omega) (by omega)
          refine lv_goto (tgt := 18) hx hb dX6_pairUp_60 (by decide) ?_
          exact ih18 x36 y1_11 (by first | omega | omega) ⟨by first | decide | omega, by first | decide | omega⟩ ⟨by first | decide | omega, by first | decide | omega⟩ _ _ hH hS _ (lv_sub hl [0, 1, 2] rfl)
        · have b39 : x30.toInt ≠ (-1) := hw_ine c34
          refine lv_iload_n hx hb dX6_pairUp_46 rfl (lv_at hl 1 rfl) ?_
          refine lv_iconst (v := 1) hx hb dX6_pairUp_47 (by decide) ?_
          refine lv_aload_n hx hb dX6_pairUp_48 rfl (lv_at hl 2 rfl) ?_
          refine hw_get hx hb fg_18_5 hK v20 rfl dX6_pairUp_49 ?_
          refine lv_iload_n hx hb dX6_pairUp_52 rfl (lv_at hl 0 rfl) ?_
          refine hw_iald hx hb hK v28 (hw_in (by omega) (by omega)) dX6_pairUp_53 ?_
          refine lv_topi (fun x40 e41 => ?_)
          have t42 : x40.toInt = x30.toInt := by rw [e41, e31]
          have n44 : vp_in y2_10 7 := (hw_in (by omega) (by omega))
          have t43 : (-1) ≤ x40.toInt ∧ x40.toInt ≤ 6 := by rw [e41]; exact q29 _ (Nat.not_le.mp fun q => n44 (Or.inr q))
          refine lv_ishl hx hb dX6_pairUp_54 ?_
          refine lv_topi (fun x45 e46 => ?_)
          have t47 : 1 ≤ x45.toInt ∧ x45.toInt ≤ 64 := by rw [e46]; exact hw_sh1b 6 (by decide) (by first | decide | omega) (by first | decide | omega)
          refine lv_ior hx hb dX6_pairUp_55 ?_
          refine lv_topi (fun x48 e49 => ?_)
          have t50 : 0 ≤ x48.toInt ∧ x48.toInt < 128 := by rw [e49]; exact hw_ior (k := 7) (by decide) (by first | decide | omega) (by first | decide | omega) (by first | decide | omega) (by first | decide | omega)
          refine lv_istore_n (lv' := [(1, .int x48), (2, .int y2_10), (0, .ref h0)]) hx hb dX6_pairUp_56 rfl hl (by decide) rfl (fun ls hl => ?_)
          obtain ⟨x51, e52⟩ : ∃ y : Int32, y = y2_10 + 1 := ⟨_, rfl⟩
          refine lv_iinc (v := x51) (lv' := [(2, .int x51), (1, .int x48), (0, .ref h0)]) hx hb dX6_pairUp_57 hl (k := 1) rfl (by rw [e52]; rfl) (by decide) rfl (fun ls hl => ?_)
          have t53 : x51.toInt = y2_10.toInt + 1 := by rw [e52]; exact hw_add rfl rfl (by omega) (by omega)
          refine lv_goto (tgt := 18) hx hb dX6_pairUp_60 (by decide) ?_
          exact ih18 x51 x48 (by first | omega | omega) ⟨by first | decide | omega, by first | decide | omega⟩ ⟨by first | decide | omega, by first | decide | omega⟩ _ _ hH hS _ (lv_sub hl [0, 1, 2] rfl)
  exact L18 _ 0 0 (Nat.lt_succ_self _) ⟨by first | decide | omega, by first | decide | omega⟩ ⟨by first | decide | omega, by first | decide | omega⟩ _ _ hH hS _ (lv_sub hl [0, 1, 2] rfl)

set_option maxHeartbeats 4000000 in
set_option maxRecDepth 100000 in
theorem k_X6_startWork (l : Launch) (D : hw_D) (G : Nat → Nat) (h0 : Nat) (sz : Nat) (G0 : G h0 = 5) : Met l yX6_startWork wsX6_startWork ({ frames := 0, cells := 0, slots := 0, locals := 0 } : Room) (hw_PC D G [.ref h0] sz (fun H => True)) (hw_QM (fun v H => v = none ∧ hw_HT D G H) (hw_AW G [18] sz)) 0 0 (hw_AW G [18] sz) := by
  refine hw_met (cc := cX6_startWork) (maxL := 2) (ret := none) (plainFor_of_name (by decide)) rfl (Nat.le_of_ble_eq_true rfl) ?_
  intro p e s m args below meth c QQ ls hsz hx hb hml hr hts hown hlocks hnm hH hK hST hF hQ hl
  subst hsz
  have hS : va_S (hw_AW G [18] s.heap.size) s.heap s.heap [] := va_S.rf
  have hl : lv_has ls 2 [(0, .ref h0)] := hl
  have u_5 : ∀ w ∈ u_ws RX6 TX6 7, w.before args s = true := fun w hw => hts w ((by decide +kernel : ∀ w ∈ u_ws RX6 TX6 7, w ∈ wsX6_startWork) w hw)
  have fg_27_5 : hw_FG s args m 27 5 6 := ⟨RX6, "WardWalkers$Planner", RX6, TX6, 7, u_5, hown, rfl, by decide, (hts (.fieldLink RX6 27 "WardWalkers$Planner" "latest" "[I") (by decide +kernel)), (fun _ h9 => h9)⟩
  refine lv_aload_n hx hb dX6_startWork_0 rfl (lv_at hl 0 rfl) ?_
  obtain ⟨r1, pa_2, v3, R4⟩ := hH.oP G0
  refine hw_get hx hb fg_27_5 hK v3 rfl dX6_startWork_1 ?_
  refine lv_iconst (v := 0) hx hb dX6_startWork_4 (by decide) ?_
  refine lv_iconst (v := 0) hx hb dX6_startWork_5 (by decide) ?_
  obtain ⟨f5, v6⟩ := hH.a18 (hw_RP_6 R4)
  refine hw_iast hx hb hK hH v6 (hw_in (x := 0) (by decide) (by decide)) (fun _ => by rw [(hw_RP_6 R4)]; exact ⟨_, rfl⟩) hS (hw_AWi (hw_RP_6 R4) (by decide)) dX6_startWork_6 (fun H locs hH v6 oq hz hS => ?_)
  have v3 := va_at.kept v3 (oq _ (hw_ne G0 (hw_RP_6 R4) (by decide)))
  refine lv_iconst (v := 1) hx hb dX6_startWork_7 (by decide) ?_
  refine lv_istore_n (lv' := [(1, .int 1), (0, .ref h0)]) hx hb dX6_startWork_8 rfl hl (by decide) rfl (fun ls hl => ?_)
  have L9 : ∀ (n10 : Nat) (y1_8 : Int32) (hm : (128 - y1_8.toInt).toNat < n10) (g9 : 1 ≤ y1_8.toInt ∧ y1_8.toInt ≤ 128) (H : Heap) (locs : List Loc) (hH : hw_HT D G H) (hS : va_S (hw_AW G [18] s.heap.size) s.heap H locs) (ls : Array Slot) (hl : lv_has ls 2 [(1, .int y1_8), (0, .ref h0)]), W p l e ({ frames := 0, cells := 0, slots := 0, locals := 0 } : Room) s m args below meth c H locs 0 0 QQ (F0 m 9 ls []) := by
    intro n10
    induction n10 with
    | zero => intro y1_8 hm; exact absurd hm (Nat.not_lt_zero _)
    | succ n10 ih9 =>
      intro y1_8 hm g9 H locs hH hS ls hl
      refine lv_iload_n hx hb dX6_startWork_9 rfl (lv_at hl 0 rfl) ?_
      refine lv_sipush (v := 128) hx hb dX6_startWork_10 (by decide) ?_
      refine lv_icmp_ge (tgt := 30) hx hb dX6_startWork_13 (by decide) (fun c11 => ?_) (fun c11 => ?_)
      · have b12 : 128 ≤ y1_8.toInt := hw_ile c11
        exact hw_vretM hx hb hr hlocks hQ hS (⟨rfl, hH⟩) dX6_startWork_30
      · have b13 : y1_8.toInt < 128 := hw_inle c11
        refine lv_aload_n hx hb dX6_startWork_16 rfl (lv_at hl 1 rfl) ?_
        obtain ⟨r14, pa_15, v16, R17⟩ := hH.oP G0
        refine hw_get hx hb fg_27_5 hK v16 rfl dX6_startWork_17 ?_
        refine lv_iload_n hx hb dX6_startWork_20 rfl (lv_at hl 0 rfl) ?_
        refine lv_ldc (v := 1000000) hx hb hown (hts (.constant RX6 50 (1000000)) (by decide +kernel)) dX6_startWork_21 ?_
        obtain ⟨f18, v19⟩ := hH.a18 (hw_RP_6 R17)
        refine hw_iast hx hb hK hH v19 (hw_in (by omega) (by omega)) (fun _ => by rw [(hw_RP_6 R17)]; exact ⟨_, rfl⟩) hS (hw_AWi (hw_RP_6 R17) (by decide)) dX6_startWork_23 (fun H locs hH v19 oq hz hS => ?_)
        have v16 := va_at.kept v16 (oq _ (hw_ne G0 (hw_RP_6 R17) (by decide)))
        obtain ⟨x21, e22⟩ : ∃ y : Int32, y = y1_8 + 1 := ⟨_, rfl⟩
        refine lv_iinc (v := x21) (lv' := [(1, .int x21), (0, .ref h0)]) hx hb dX6_startWork_24 hl (k := 0) rfl (by rw [e22]; rfl) (by decide) rfl (fun ls hl => ?_)
        have t23 : x21.toInt = y1_8.toInt + 1 := by rw [e22]; exact hw_add rfl rfl (by omega) (by omega)
        refine lv_goto (tgt := 9) hx hb dX6_startWork_27 (by decide) ?_
        exact ih9 x21 (by first | omega | omega) ⟨by first | decide | omega, by first | decide | omega⟩ _ _ hH hS _ (lv_sub hl [0, 1] rfl)
  exact L9 _ 1 (Nat.lt_succ_self _) ⟨by first | decide | omega, by first | decide | omega⟩ _ _ hH hS _ (lv_sub hl [0, 1] rfl)

set_option maxHeartbeats 4000000 in
set_option maxRecDepth 100000 in
theorem k_X11_minutesBetween (l : Launch) (D : hw_D) (G : Nat → Nat) (p1 : Int32) (p2 : Int32) (sz : Nat) : Met l yX11_minutesBetween wsX11_minutesBetween ({ frames := 1, cells := 0, slots := 0, locals := 14 } : Room) (hw_PC D G [.int p1, .int p2] sz (fun H => True)) (hw_QR (fun v => ∃ (r : Int32), v = .int r)) 0 0 (fun _ => False) := by
  refine hw_met (cc := cX11_minutesBetween) (maxL := 2) (ret := (some .int)) (plainFor_of_name (by decide)) rfl (Nat.le_of_ble_eq_true rfl) ?_
  intro p e s m args below meth c QQ ls hsz hx hb hml hr hts hown hlocks hnm hH hK hST hF hQ hl
  subst hsz
  have hS : va_S (hw_AW G [] s.heap.size) s.heap s.heap [] := va_S.rf
  have hl : lv_has ls 2 [(0, .int p1), (1, .int p2)] := hl
  refine lv_iload_n hx hb dX11_minutesBetween_0 rfl (lv_at hl 0 rfl) ?_
  refine lv_bipush (v := 10) hx hb dX11_minutesBetween_1 (by decide) ?_
  refine lv_idiv hx hb dX11_minutesBetween_3 (by decide) ?_
  refine lv_topi (fun x1 e2 => ?_)
  refine lv_iload_n hx hb dX11_minutesBetween_4 rfl (lv_at hl 1 rfl) ?_
  refine lv_bipush (v := 10) hx hb dX11_minutesBetween_5 (by decide) ?_
  refine lv_idiv hx hb dX11_minutesBetween_7 (by decide) ?_
  refine lv_topi (fun x3 e4 => ?_)
  refine lv_isub hx hb dX11_minutesBetween_8 ?_
  refine lv_topi (fun x5 e6 => ?_)
  refine va_mabs hx hb (hml.trans hl.1.symm) hown (hts (.methodLink RX11 417 Lib.Math.abs.name) (by decide +kernel)) (hts (.static Lib.Math.abs.name) (by decide +kernel)) (hts (.initialized "java/lang/Math") (by decide +kernel)) (hts (.code Lib.Math.abs.name Lib.Math.abs.code 1 (some .int)) (by decide +kernel)) (Nat.le_of_ble_eq_true rfl) (Nat.le_of_ble_eq_true rfl) (Nat.le_of_ble_eq_true rfl) (Nat.le_of_ble_eq_true rfl) dX11_minutesBetween_9 ?_
  refine lv_topi (fun x7 e8 => ?_)
  refine lv_iload_n hx hb dX11_minutesBetween_12 rfl (lv_at hl 0 rfl) ?_
  refine lv_bipush (v := 10) hx hb dX11_minutesBetween_13 (by decide) ?_
  refine lv_irem hx hb dX11_minutesBetween_15 (by decide) ?_
  refine lv_topi (fun x9 e10 => ?_)
  have t11 : (-10 < x9.toInt ∧ x9.toInt < 10) ∧ (0 ≤ p1.toInt → 0 ≤ x9.toInt) ∧ (p1.toInt ≤ 0 → x9.toInt ≤ 0) := by rw [e10]; exact hw_rem (by decide)
  refine lv_iload_n hx hb dX11_minutesBetween_16 rfl (lv_at hl 1 rfl) ?_
  refine lv_bipush (v := 10) hx hb dX11_minutesBetween_17 (by decide) ?_
  refine lv_irem hx hb dX11_minutesBetween_19 (by decide) ?_
  refine lv_topi (fun x12 e13 => ?_)
  have t14 : (-10 < x12.toInt ∧ x12.toInt < 10) ∧ (0 ≤ p2.toInt → 0 ≤ x12.toInt) ∧ (p2.toInt ≤ 0 → x12.toInt ≤ 0) := by rw [e13]; exact hw_rem (by decide)
  refine lv_isub hx hb dX11_minutesBetween_20 ?_
  refine lv_topi (fun x15 e16 => ?_)
  have t17 : x15.toInt = x9.toInt - x12.toInt := by rw [e16]; exact hw_sub rfl rfl (by omega) (by omega)
  refine va_mabs hx hb (hml.trans hl.1.symm) hown (hts (.methodLink RX11 417 Lib.Math.abs.name) (by decide +kernel)) (hts (.static Lib.Math.abs.name) (by decide +kernel)) (hts (.initialized "java/lang/Math") (by decide +kernel)) (hts (.code Lib.Math.abs.name Lib.Math.abs.code 1 (some .int)) (by decide +kernel)) (Nat.le_of_ble_eq_true rfl) (Nat.le_of_ble_eq_true rfl) (Nat.le_of_ble_eq_true rfl) (Nat.le_of_ble_eq_true rfl) dX11_minutesBetween_21 ?_
  refine lv_topi (fun x18 e19 => ?_)
  refine lv_iadd hx hb dX11_minutesBetween_24 ?_
  refine lv_topi (fun x20 e21 => ?_)
  exact hw_iretR (v := x20) hx hb hr hlocks hQ rfl (⟨x20, rfl⟩) dX11_minutesBetween_25

set_option maxHeartbeats 4000000 in
set_option maxRecDepth 100000 in
theorem k_X6_minuteAfter (l : Launch) (D : hw_D) (G : Nat → Nat) (h0 : Nat) (p1 : Int32) (p2 : Nat) (p3 : Nat) (sz : Nat) (G0 : G h0 = 5) (G2 : G p2 = 4) (G3 : G p3 = 2) (hs : 0 ≤ p1.toInt ∧ p1.toInt < 128) : Met l yX6_minuteAfter wsX6_minuteAfter ({ frames := 2, cells := 0, slots := 0, locals := 35 } : Room) (hw_PC D G [.ref h0, .int p1, .ref p2, .ref p3] sz (fun H => True)) (hw_QR (fun v => ∃ (r : Int32), v = .int r)) 0 0 (fun _ => False) := by
  refine hw_met (cc := cX6_minuteAfter) (maxL := 7) (ret := (some .int)) (plainFor_of_name (by decide)) rfl (Nat.le_of_ble_eq_true rfl) ?_
  intro p e s m args below meth c QQ ls hsz hx hb hml hr hts hown hlocks hnm hH hK hST hF hQ hl
  subst hsz
  have hS : va_S (hw_AW G [] s.heap.size) s.heap s.heap [] := va_S.rf
  have hl : lv_has ls 7 [(0, .ref h0), (1, .int p1), (2, .ref p2), (3, .ref p3)] := hl
  have u_1 : ∀ w ∈ u_ws RX1 TX1 7, w.before args s = true := fun w hw => hts w ((by decide +kernel : ∀ w ∈ u_ws RX1 TX1 7, w ∈ wsX6_minuteAfter) w hw)
  have fg_55_1 : hw_FG s args m 55 1 3 := ⟨RX6, "WardWalkers$Country", RX1, TX1, 7, u_1, hown, rfl, by decide, (hts (.fieldLink RX6 55 "WardWalkers$Country" "lockCount" "I") (by decide +kernel)), (fun _ h9 => h9)⟩
  have u_5 : ∀ w ∈ u_ws RX6 TX6 7, w.before args s = true := fun w hw => hts w ((by decide +kernel : ∀ w ∈ u_ws RX6 TX6 7, w ∈ wsX6_minuteAfter) w hw)
  have fg_21_5 : hw_FG s args m 21 5 4 := ⟨RX6, "WardWalkers$Planner", RX6, TX6, 7, u_5, hown, rfl, by decide, (hts (.fieldLink RX6 21 "WardWalkers$Planner" "through" "[I") (by decide +kernel)), (fun _ h9 => h9)⟩
  have u_3 : ∀ w ∈ u_ws RX4 TX4 4, w.before args s = true := fun w hw => hts w ((by decide +kernel : ∀ w ∈ u_ws RX4 TX4 4, w ∈ wsX6_minuteAfter) w hw)
  have fg_64_3 : hw_FG s args m 64 3 0 := ⟨RX6, "WardWalkers$Lock", RX4, TX4, 4, u_3, hown, rfl, by decide, (hts (.fieldLink RX6 64 "WardWalkers$Lock" "place" "I") (by decide +kernel)), (fun _ h9 => h9)⟩
  refine lv_ldc (v := 1000000) hx hb hown (hts (.constant RX6 50 (1000000)) (by decide +kernel)) dX6_minuteAfter_0 ?_
  refine lv_istore (lv' := [(4, .int 1000000), (0, .ref h0), (1, .int p1), (2, .ref p2), (3, .ref p3)]) hx hb dX6_minuteAfter_2 hl (by decide) rfl (fun ls hl => ?_)
  refine lv_iconst (v := 0) hx hb dX6_minuteAfter_4 (by decide) ?_
  refine lv_istore (lv' := [(5, .int 0), (4, .int 1000000), (0, .ref h0), (1, .int p1), (2, .ref p2), (3, .ref p3)]) hx hb dX6_minuteAfter_5 hl (by decide) rfl (fun ls hl => ?_)
  have L7 : ∀ (n4 : Nat) (y5_1 : Int32) (y4_2 : Int32) (hm : (7 - y5_1.toInt).toNat < n4) (g3 : 0 ≤ y5_1.toInt ∧ y5_1.toInt ≤ 7) (ls : Array Slot) (hl : lv_has ls 7 [(5, .int y5_1), (4, .int y4_2), (0, .ref h0), (1, .int p1), (2, .ref p2), (3, .ref p3)]), W p l e ({ frames := 2, cells := 0, slots := 0, locals := 35 } : Room) s m args below meth c s.heap [] 0 0 QQ (F0 m 7 ls []) := by
    intro n4
    induction n4 with
    | zero => intro y5_1 y4_2 hm; exact absurd hm (Nat.not_lt_zero _)
    | succ n4 ih7 =>
      intro y5_1 y4_2 hm g3 ls hl
      refine lv_iload hx hb dX6_minuteAfter_7 (lv_at hl 0 rfl) ?_
      refine lv_aload_n hx hb dX6_minuteAfter_9 rfl (lv_at hl 5 rfl) ?_
      obtain ⟨r5, kc_6, lc_7, wc_8, dk_9, v10, R11, g12, g13, g14⟩ := hH.oC G3
      refine hw_get hx hb fg_55_1 hK v10 rfl dX6_minuteAfter_10 ?_
      refine lv_icmp_ge (tgt := 77) hx hb dX6_minuteAfter_13 (by decide) (fun c15 => ?_) (fun c15 => ?_)
      · have b16 : lc_7.toInt ≤ y5_1.toInt := hw_ile c15
        refine lv_iload hx hb dX6_minuteAfter_77 (lv_at hl 1 rfl) ?_
        exact hw_iretR (v := y4_2) hx hb hr hlocks hQ rfl (⟨y4_2, rfl⟩) dX6_minuteAfter_79
      · have b17 : y5_1.toInt < lc_7.toInt := hw_inle c15
        refine lv_aload_n hx hb dX6_minuteAfter_16 rfl (lv_at hl 5 rfl) ?_
        refine lv_iload hx hb dX6_minuteAfter_17 (lv_at hl 0 rfl) ?_
        refine hw_cR (va_runV (As := [.int y5_1]) (rest := []) ⟨hx, hb, hml, hown, hts⟩ (k_X1_lockAt l D G p3 y5_1 _ r5 kc_6 lc_7 wc_8 dk_9 G3 R11 ⟨by first | decide | omega, by first | decide | omega⟩ ⟨by first | decide | omega, by first | decide | omega⟩ ⟨by first | decide | omega, by first | decide | omega⟩) (cwV 1 hts gX6_minuteAfter_X1_lockAt rfl rfl rfl (by decide +kernel) ⟨Nat.le_of_ble_eq_true rfl, Nat.le_of_ble_eq_true rfl⟩) (hw_pV (hw_rc (q := (RX1, TX1, 7)) hK v10 rfl) hH hK hST hS (by decide) (fun _ h => Or.inl h) v10) rfl rfl hl.1 rfl (lv_room (Nat.le_of_ble_eq_true rfl)) dX6_minuteAfter_19 ⟨Nat.le_of_ble_eq_true rfl, Nat.le_of_ble_eq_true rfl⟩) (fun v hp => ?_)
        rcases hp with rfl | ⟨b18, rfl, k19, q20⟩
        · refine lv_astoreN (lv' := [(6, .null), (5, .int y5_1), (4, .int y4_2), (0, .ref h0), (1, .int p1), (2, .ref p2), (3, .ref p3)]) hx hb dX6_minuteAfter_22 hl (by decide) rfl (fun ls hl => ?_)
          refine lv_iload_n hx hb dX6_minuteAfter_24 rfl (lv_at hl 4 rfl) ?_
          refine lv_iload hx hb dX6_minuteAfter_25 (lv_at hl 1 rfl) ?_
          refine lv_ishr hx hb dX6_minuteAfter_27 ?_
          refine lv_topi (fun x21 e22 => ?_)
          refine lv_iconst (v := 1) hx hb dX6_minuteAfter_28 (by decide) ?_
          refine lv_iand hx hb dX6_minuteAfter_29 ?_
          refine lv_topi (fun x23 e24 => ?_)
          have t25 : 0 ≤ x23.toInt ∧ x23.toInt ≤ 1 := by rw [e24]; exact hw_and (by first | decide | omega)
          refine lv_iconst (v := 1) hx hb dX6_minuteAfter_30 (by decide) ?_
          refine lv_icmp_ne (tgt := 71) hx hb dX6_minuteAfter_31 (by decide) (fun c26 => ?_) (fun c26 => ?_)
          · have b27 : x23.toInt ≠ 1 := hw_ine c26
            obtain ⟨x28, e29⟩ : ∃ y : Int32, y = y5_1 + 1 := ⟨_, rfl⟩
            refine lv_iinc (v := x28) (lv' := [(5, .int x28), (6, .null), (4, .int y4_2), (0, .ref h0), (1, .int p1), (2, .ref p2), (3, .ref p3)]) hx hb dX6_minuteAfter_71 hl (k := 1) rfl (by rw [e29]; rfl) (by decide) rfl (fun ls hl => ?_)
            have t30 : x28.toInt = y5_1.toInt + 1 := by rw [e29]; exact hw_add rfl rfl (by omega) (by omega)
            refine lv_goto (tgt := 7) hx hb dX6_minuteAfter_74 (by decide) ?_
            exact ih7 x28 y4_2 (by first | omega | omega) ⟨by first | decide | omega, by first | decide | omega⟩ _ (lv_sub hl [0, 2, 3, 4, 5, 6] rfl)
          · have b31 : x23.toInt = 1 := hw_ieq c26
            refine lv_aloadN hx hb dX6_minuteAfter_34 (lv_at hl 0 rfl) ?_
            refine lv_ifnullN (tgt := 71) hx hb dX6_minuteAfter_36 (by decide) ?_
            obtain ⟨x32, e33⟩ : ∃ y : Int32, y = y5_1 + 1 := ⟨_, rfl⟩
            refine lv_iinc (v := x32) (lv' := [(5, .int x32), (6, .null), (4, .int y4_2), (0, .ref h0), (1, .int p1), (2, .ref p2), (3, .ref p3)]) hx hb dX6_minuteAfter_71 hl (k := 1) rfl (by rw [e33]; rfl) (by decide) rfl (fun ls hl => ?_)
            have t34 : x32.toInt = y5_1.toInt + 1 := by rw [e33]; exact hw_add rfl rfl (by omega) (by omega)
            refine lv_goto (tgt := 7) hx hb dX6_minuteAfter_74 (by decide) ?_
            exact ih7 x32 y4_2 (by first | omega | omega) ⟨by first | decide | omega, by first | decide | omega⟩ _ (lv_sub hl [0, 2, 3, 4, 5, 6] rfl)
        · refine lv_astore (lv' := [(6, .ref b18), (5, .int y5_1), (4, .int y4_2), (0, .ref h0), (1, .int p1), (2, .ref p2), (3, .ref p3)]) hx hb dX6_minuteAfter_22 hl (by decide) rfl (fun ls hl => ?_)
          refine lv_iload_n hx hb dX6_minuteAfter_24 rfl (lv_at hl 4 rfl) ?_
          refine lv_iload hx hb dX6_minuteAfter_25 (lv_at hl 1 rfl) ?_
          refine lv_ishr hx hb dX6_minuteAfter_27 ?_
          refine lv_topi (fun x35 e36 => ?_)
          refine lv_iconst (v := 1) hx hb dX6_minuteAfter_28 (by decide) ?_
          refine lv_iand hx hb dX6_minuteAfter_29 ?_
          refine lv_topi (fun x37 e38 => ?_)
          have t39 : 0 ≤ x37.toInt ∧ x37.toInt ≤ 1 := by rw [e38]; exact hw_and (by first | decide | omega)
          refine lv_iconst (v := 1) hx hb dX6_minuteAfter_30 (by decide) ?_
          refine lv_icmp_ne (tgt := 71) hx hb dX6_minuteAfter_31 (by decide) (fun c40 => ?_) (fun c40 => ?_)
          · have b41 : x37.toInt ≠ 1 := hw_ine c40
            obtain ⟨x42, e43⟩ : ∃ y : Int32, y = y5_1 + 1 := ⟨_, rfl⟩
            refine lv_iinc (v := x42) (lv' := [(5, .int x42), (6, .ref b18), (4, .int y4_2), (0, .ref h0), (1, .int p1), (2, .ref p2), (3, .ref p3)]) hx hb dX6_minuteAfter_71 hl (k := 1) rfl (by rw [e43]; rfl) (by decide) rfl (fun ls hl => ?_)
            have t44 : x42.toInt = y5_1.toInt + 1 := by rw [e43]; exact hw_add rfl rfl (by omega) (by omega)
            refine lv_goto (tgt := 7) hx hb dX6_minuteAfter_74 (by decide) ?_
            exact ih7 x42 y4_2 (by first | omega | omega) ⟨by first | decide | omega, by first | decide | omega⟩ _ (lv_sub hl [0, 2, 3, 4, 5, 6] rfl)
          · have b45 : x37.toInt = 1 := hw_ieq c40
            refine lv_aload hx hb dX6_minuteAfter_34 (lv_at hl 0 rfl) ?_
            refine lv_ifnull hx hb dX6_minuteAfter_36 ?_
            refine lv_iload hx hb dX6_minuteAfter_39 (lv_at hl 2 rfl) ?_
            refine lv_aload_n hx hb dX6_minuteAfter_41 rfl (lv_at hl 3 rfl) ?_
            obtain ⟨r46, pa_47, v48, R49⟩ := hH.oP G0
            refine hw_get hx hb fg_21_5 hK v48 rfl dX6_minuteAfter_42 ?_
            refine lv_iload_n hx hb dX6_minuteAfter_45 rfl (lv_at hl 4 rfl) ?_
            refine lv_bipush (v := 7) hx hb dX6_minuteAfter_46 (by decide) ?_
            refine lv_imul hx hb dX6_minuteAfter_48 ?_
            refine lv_topi (fun x50 e51 => ?_)
            have t52 : x50.toInt = p1.toInt * 7 := by rw [e51]; exact hw_mul rfl rfl (by omega) (by omega)
            refine lv_iload hx hb dX6_minuteAfter_49 (lv_at hl 1 rfl) ?_
            refine lv_iadd hx hb dX6_minuteAfter_51 ?_
            refine lv_topi (fun x53 e54 => ?_)
            have t55 : x53.toInt = x50.toInt + y5_1.toInt := by rw [e54]; exact hw_add rfl rfl (by omega) (by omega)
            obtain ⟨f56, v57⟩ := hH.a16 (hw_RP_4 R49)
            refine hw_iald hx hb hK v57 (hw_in (by omega) (by omega)) dX6_minuteAfter_52 ?_
            refine lv_topi (fun x59 e60 => ?_)
            refine lv_aload hx hb dX6_minuteAfter_53 (lv_at hl 0 rfl) ?_
            obtain ⟨r61, pl_62, wa_63, py_64, va_65, v66⟩ := hH.oL k19
            refine hw_get hx hb fg_64_3 hK v66 rfl dX6_minuteAfter_55 ?_
            refine lv_aload_n hx hb dX6_minuteAfter_58 rfl (lv_at hl 5 rfl) ?_
            obtain ⟨r68, pl_69, wa_70, py_71, va_72, v73⟩ := hH.oL G2
            refine hw_get hx hb fg_64_3 hK v73 rfl dX6_minuteAfter_59 ?_
            refine hw_cR (va_runSN (As := [.int pl_62, .int pl_69]) (rest := [.int x59, .int y4_2]) ⟨hx, hb, hml, hown, hts⟩ (k_X11_minutesBetween l D G pl_62 pl_69 _) ⟨va_cnB 2 hts gX6_minuteAfter_X11_minutesBetween_n69 rfl rfl rfl (hw_en69 hST.ex) (hts (.initialized RX11) (by decide +kernel)) (by decide +kernel) ⟨Nat.le_of_ble_eq_true rfl, Nat.le_of_ble_eq_true rfl⟩, hts (.static yX11_minutesBetween) (by decide +kernel), trivial⟩ (hw_pS hH hK hST hS (by decide) (fun _ h => Or.inl h) trivial) rfl rfl hl.1 rfl (lv_room (Nat.le_of_ble_eq_true rfl)) dX6_minuteAfter_62 ⟨Nat.le_of_ble_eq_true rfl, Nat.le_of_ble_eq_true rfl⟩) (fun v hp => ?_)
            obtain ⟨x75, rfl⟩ := hp
            refine lv_iadd hx hb dX6_minuteAfter_65 ?_
            refine lv_topi (fun x76 e77 => ?_)
            refine va_mmin hx hb (hml.trans hl.1.symm) hown (hts (.methodLink RX6 76 Lib.Math.min.name) (by decide +kernel)) (hts (.static Lib.Math.min.name) (by decide +kernel)) (hts (.initialized "java/lang/Math") (by decide +kernel)) (hts (.code Lib.Math.min.name Lib.Math.min.code 2 (some .int)) (by decide +kernel)) (Nat.le_of_ble_eq_true rfl) (Nat.le_of_ble_eq_true rfl) (Nat.le_of_ble_eq_true rfl) (Nat.le_of_ble_eq_true rfl) dX6_minuteAfter_66 ?_
            refine lv_topi (fun x78 e79 => ?_)
            have t80 : x78.toInt = min y4_2.toInt x76.toInt := by rw [e79]; exact hw_min rfl rfl
            refine lv_istore (lv' := [(4, .int x78), (6, .ref b18), (5, .int y5_1), (0, .ref h0), (1, .int p1), (2, .ref p2), (3, .ref p3)]) hx hb dX6_minuteAfter_69 hl (by decide) rfl (fun ls hl => ?_)
            obtain ⟨x81, e82⟩ : ∃ y : Int32, y = y5_1 + 1 := ⟨_, rfl⟩
            refine lv_iinc (v := x81) (lv' := [(5, .int x81), (4, .int x78), (6, .ref b18), (0, .ref h0), (1, .int p1), (2, .ref p2), (3, .ref p3)]) hx hb dX6_minuteAfter_71 hl (k := 2) rfl (by rw [e82]; rfl) (by decide) rfl (fun ls hl => ?_)
            have t83 : x81.toInt = y5_1.toInt + 1 := by rw [e82]; exact hw_add rfl rfl (by omega) (by omega)
            refine lv_goto (tgt := 7) hx hb dX6_minuteAfter_74 (by decide) ?_
            exact ih7 x81 x78 (by first | omega | omega) ⟨by first | decide | omega, by first | decide | omega⟩ _ (lv_sub hl [0, 1, 3, 4, 5, 6] rfl)
  exact L7 _ 0 1000000 (Nat.lt_succ_self _) ⟨by first | decide | omega, by first | decide | omega⟩ _ (lv_sub hl [0, 1, 2, 3, 4, 5] rfl)

set_option maxHeartbeats 4000000 in
set_option maxRecDepth 100000 in
theorem k_X6_walkThrough (l : Launch) (D : hw_D) (G : Nat → Nat) (h0 : Nat) (p1 : Int32) (p2 : Int32) (p3 : Int32) (p4 : Nat) (sz : Nat) (G0 : G h0 = 5) (G4 : G p4 = 2) (hs : 0 ≤ p1.toInt ∧ p1.toInt < 128) : Met l yX6_walkThrough wsX6_walkThrough ({ frames := 3, cells := 0, slots := 0, locals := 61 } : Room) (hw_PC D G [.ref h0, .int p1, .int p2, .int p3, .ref p4] sz (fun H => True)) (hw_QM (fun v H => v = none ∧ hw_HT D G H) (hw_AW G [16, 17] sz)) 0 0 (hw_AW G [16, 17] sz) := by
  refine hw_met (cc := cX6_walkThrough) (maxL := 8) (ret := none) (plainFor_of_name (by decide)) rfl (Nat.le_of_ble_eq_true rfl) ?_
  intro p e s m args below meth c QQ ls hsz hx hb hml hr hts hown hlocks hnm hH hK hST hF hQ hl
  subst hsz
  have hS : va_S (hw_AW G [16, 17] s.heap.size) s.heap s.heap [] := va_S.rf
  have hl : lv_has ls 8 [(0, .ref h0), (1, .int p1), (2, .int p2), (3, .int p3), (4, .ref p4)] := hl
  have u_5 : ∀ w ∈ u_ws RX6 TX6 7, w.before args s = true := fun w hw => hts w ((by decide +kernel : ∀ w ∈ u_ws RX6 TX6 7, w ∈ wsX6_walkThrough) w hw)
  have fg_24_5 : hw_FG s args m 24 5 5 := ⟨RX6, "WardWalkers$Planner", RX6, TX6, 7, u_5, hown, rfl, by decide, (hts (.fieldLink RX6 24 "WardWalkers$Planner" "tour" "[I") (by decide +kernel)), (fun _ h9 => h9)⟩
  have u_1 : ∀ w ∈ u_ws RX1 TX1 7, w.before args s = true := fun w hw => hts w ((by decide +kernel : ∀ w ∈ u_ws RX1 TX1 7, w ∈ wsX6_walkThrough) w hw)
  have fg_55_1 : hw_FG s args m 55 1 3 := ⟨RX6, "WardWalkers$Country", RX1, TX1, 7, u_1, hown, rfl, by decide, (hts (.fieldLink RX6 55 "WardWalkers$Country" "lockCount" "I") (by decide +kernel)), (fun _ h9 => h9)⟩
  have fg_21_5 : hw_FG s args m 21 5 4 := ⟨RX6, "WardWalkers$Planner", RX6, TX6, 7, u_5, hown, rfl, by decide, (hts (.fieldLink RX6 21 "WardWalkers$Planner" "through" "[I") (by decide +kernel)), (fun _ h9 => h9)⟩
  have u_3 : ∀ w ∈ u_ws RX4 TX4 4, w.before args s = true := fun w hw => hts w ((by decide +kernel : ∀ w ∈ u_ws RX4 TX4 4, w ∈ wsX6_walkThrough) w hw)
  have fg_64_3 : hw_FG s args m 64 3 0 := ⟨RX6, "WardWalkers$Lock", RX4, TX4, 4, u_3, hown, rfl, by decide, (hts (.fieldLink RX6 64 "WardWalkers$Lock" "place" "I") (by decide +kernel)), (fun _ h9 => h9)⟩
  refine lv_aload_n hx hb dX6_walkThrough_0 rfl (lv_at hl 0 rfl) ?_
  obtain ⟨r1, pa_2, v3, R4⟩ := hH.oP G0
  refine hw_get hx hb fg_24_5 hK v3 rfl dX6_walkThrough_1 ?_
  refine lv_iload_n hx hb dX6_walkThrough_4 rfl (lv_at hl 1 rfl) ?_
  refine lv_ldc (v := 1000000) hx hb hown (hts (.constant RX6 50 (1000000)) (by decide +kernel)) dX6_walkThrough_5 ?_
  obtain ⟨f5, v6⟩ := hH.a17 (hw_RP_5 R4)
  refine hw_iast hx hb hK hH v6 (hw_in (by omega) (by omega)) (fun _ => by rw [(hw_RP_5 R4)]; exact ⟨_, rfl⟩) hS (hw_AWi (hw_RP_5 R4) (by decide)) dX6_walkThrough_7 (fun H locs hH v6 oq hz hS => ?_)
  have v3 := va_at.kept v3 (oq _ (hw_ne G0 (hw_RP_5 R4) (by decide)))
  refine lv_iconst (v := 0) hx hb dX6_walkThrough_8 (by decide) ?_
  refine lv_istore (lv' := [(5, .int 0), (0, .ref h0), (1, .int p1), (2, .int p2), (3, .int p3), (4, .ref p4)]) hx hb dX6_walkThrough_9 hl (by decide) rfl (fun ls hl => ?_)
  have L11 : ∀ (n10 : Nat) (y5_8 : Int32) (hm : (7 - y5_8.toInt).toNat < n10) (g9 : 0 ≤ y5_8.toInt ∧ y5_8.toInt ≤ 7) (H : Heap) (locs : List Loc) (hH : hw_HT D G H) (hS : va_S (hw_AW G [16, 17] s.heap.size) s.heap H locs) (ls : Array Slot) (hl : lv_has ls 8 [(5, .int y5_8), (0, .ref h0), (1, .int p1), (2, .int p2), (3, .int p3), (4, .ref p4)]), W p l e ({ frames := 3, cells := 0, slots := 0, locals := 61 } : Room) s m args below meth c H locs 0 0 QQ (F0 m 11 ls []) := by
    intro n10
    induction n10 with
    | zero => intro y5_8 hm; exact absurd hm (Nat.not_lt_zero _)
    | succ n10 ih11 =>
      intro y5_8 hm g9 H locs hH hS ls hl
      refine lv_iload hx hb dX6_walkThrough_11 (lv_at hl 0 rfl) ?_
      refine lv_aload hx hb dX6_walkThrough_13 (lv_at hl 5 rfl) ?_
      obtain ⟨r11, kc_12, lc_13, wc_14, dk_15, v16, R17, g18, g19, g20⟩ := hH.oC G4
      refine hw_get hx hb fg_55_1 hK v16 rfl dX6_walkThrough_15 ?_
      refine lv_icmp_ge (tgt := 124) hx hb dX6_walkThrough_18 (by decide) (fun c21 => ?_) (fun c21 => ?_)
      · have b22 : lc_13.toInt ≤ y5_8.toInt := hw_ile c21
        exact hw_vretM hx hb hr hlocks hQ hS (⟨rfl, hH⟩) dX6_walkThrough_124
      · have b23 : y5_8.toInt < lc_13.toInt := hw_inle c21
        refine lv_aload hx hb dX6_walkThrough_21 (lv_at hl 5 rfl) ?_
        refine lv_iload hx hb dX6_walkThrough_23 (lv_at hl 0 rfl) ?_
        refine hw_cR (va_runV (As := [.int y5_8]) (rest := []) ⟨hx, hb, hml, hown, hts⟩ (k_X1_lockAt l D G p4 y5_8 _ r11 kc_12 lc_13 wc_14 dk_15 G4 R17 ⟨by first | decide | omega, by first | decide | omega⟩ ⟨by first | decide | omega, by first | decide | omega⟩ ⟨by first | decide | omega, by first | decide | omega⟩) (cwV 1 hts gX6_walkThrough_X1_lockAt rfl rfl rfl (by decide +kernel) ⟨Nat.le_of_ble_eq_true rfl, Nat.le_of_ble_eq_true rfl⟩) (hw_pV (hw_rc (q := (RX1, TX1, 7)) hK v16 rfl) hH hK hST hS (by decide) (fun _ h => Or.inl h) v16) rfl rfl hl.1 rfl (lv_room (Nat.le_of_ble_eq_true rfl)) dX6_walkThrough_25 ⟨Nat.le_of_ble_eq_true rfl, Nat.le_of_ble_eq_true rfl⟩) (fun v hp => ?_)
        rcases hp with rfl | ⟨b24, rfl, k25, q26⟩
        · refine lv_astoreN (lv' := [(6, .null), (5, .int y5_8), (0, .ref h0), (1, .int p1), (2, .int p2), (3, .int p3), (4, .ref p4)]) hx hb dX6_walkThrough_28 hl (by decide) rfl (fun ls hl => ?_)
          refine lv_iload_n hx hb dX6_walkThrough_30 rfl (lv_at hl 3 rfl) ?_
          refine lv_iload hx hb dX6_walkThrough_31 (lv_at hl 1 rfl) ?_
          refine lv_ishr hx hb dX6_walkThrough_33 ?_
          refine lv_topi (fun x27 e28 => ?_)
          refine lv_iconst (v := 1) hx hb dX6_walkThrough_34 (by decide) ?_
          refine lv_iand hx hb dX6_walkThrough_35 ?_
          refine lv_topi (fun x29 e30 => ?_)
          have t31 : 0 ≤ x29.toInt ∧ x29.toInt ≤ 1 := by rw [e30]; exact hw_and (by first | decide | omega)
          refine lv_iconst (v := 1) hx hb dX6_walkThrough_36 (by decide) ?_
          refine lv_icmp_ne (tgt := 118) hx hb dX6_walkThrough_37 (by decide) (fun c32 => ?_) (fun c32 => ?_)
          · have b33 : x29.toInt ≠ 1 := hw_ine c32
            obtain ⟨x34, e35⟩ : ∃ y : Int32, y = y5_8 + 1 := ⟨_, rfl⟩
            refine lv_iinc (v := x34) (lv' := [(5, .int x34), (6, .null), (0, .ref h0), (1, .int p1), (2, .int p2), (3, .int p3), (4, .ref p4)]) hx hb dX6_walkThrough_118 hl (k := 1) rfl (by rw [e35]; rfl) (by decide) rfl (fun ls hl => ?_)
            have t36 : x34.toInt = y5_8.toInt + 1 := by rw [e35]; exact hw_add rfl rfl (by omega) (by omega)
            refine lv_goto (tgt := 11) hx hb dX6_walkThrough_121 (by decide) ?_
            exact ih11 x34 (by first | omega | omega) ⟨by first | decide | omega, by first | decide | omega⟩ _ _ hH hS _ (lv_sub hl [0, 2, 3, 4, 5, 6] rfl)
          · have b37 : x29.toInt = 1 := hw_ieq c32
            refine lv_aloadN hx hb dX6_walkThrough_40 (lv_at hl 0 rfl) ?_
            refine lv_ifnullN (tgt := 118) hx hb dX6_walkThrough_42 (by decide) ?_
            obtain ⟨x38, e39⟩ : ∃ y : Int32, y = y5_8 + 1 := ⟨_, rfl⟩
            refine lv_iinc (v := x38) (lv' := [(5, .int x38), (6, .null), (0, .ref h0), (1, .int p1), (2, .int p2), (3, .int p3), (4, .ref p4)]) hx hb dX6_walkThrough_118 hl (k := 1) rfl (by rw [e39]; rfl) (by decide) rfl (fun ls hl => ?_)
            have t40 : x38.toInt = y5_8.toInt + 1 := by rw [e39]; exact hw_add rfl rfl (by omega) (by omega)
            refine lv_goto (tgt := 11) hx hb dX6_walkThrough_121 (by decide) ?_
            exact ih11 x38 (by first | omega | omega) ⟨by first | decide | omega, by first | decide | omega⟩ _ _ hH hS _ (lv_sub hl [0, 2, 3, 4, 5, 6] rfl)
        · refine lv_astore (lv' := [(6, .ref b24), (5, .int y5_8), (0, .ref h0), (1, .int p1), (2, .int p2), (3, .int p3), (4, .ref p4)]) hx hb dX6_walkThrough_28 hl (by decide) rfl (fun ls hl => ?_)
          refine lv_iload_n hx hb dX6_walkThrough_30 rfl (lv_at hl 3 rfl) ?_
          refine lv_iload hx hb dX6_walkThrough_31 (lv_at hl 1 rfl) ?_
          refine lv_ishr hx hb dX6_walkThrough_33 ?_
          refine lv_topi (fun x41 e42 => ?_)
          refine lv_iconst (v := 1) hx hb dX6_walkThrough_34 (by decide) ?_
          refine lv_iand hx hb dX6_walkThrough_35 ?_
          refine lv_topi (fun x43 e44 => ?_)
          have t45 : 0 ≤ x43.toInt ∧ x43.toInt ≤ 1 := by rw [e44]; exact hw_and (by first | decide | omega)
          refine lv_iconst (v := 1) hx hb dX6_walkThrough_36 (by decide) ?_
          refine lv_icmp_ne (tgt := 118) hx hb dX6_walkThrough_37 (by decide) (fun c46 => ?_) (fun c46 => ?_)
          · have b47 : x43.toInt ≠ 1 := hw_ine c46
            obtain ⟨x48, e49⟩ : ∃ y : Int32, y = y5_8 + 1 := ⟨_, rfl⟩
            refine lv_iinc (v := x48) (lv' := [(5, .int x48), (6, .ref b24), (0, .ref h0), (1, .int p1), (2, .int p2), (3, .int p3), (4, .ref p4)]) hx hb dX6_walkThrough_118 hl (k := 1) rfl (by rw [e49]; rfl) (by decide) rfl (fun ls hl => ?_)
            have t50 : x48.toInt = y5_8.toInt + 1 := by rw [e49]; exact hw_add rfl rfl (by omega) (by omega)
            refine lv_goto (tgt := 11) hx hb dX6_walkThrough_121 (by decide) ?_
            exact ih11 x48 (by first | omega | omega) ⟨by first | decide | omega, by first | decide | omega⟩ _ _ hH hS _ (lv_sub hl [0, 2, 3, 4, 5, 6] rfl)
          · have b51 : x43.toInt = 1 := hw_ieq c46
            refine lv_aload hx hb dX6_walkThrough_40 (lv_at hl 0 rfl) ?_
            refine lv_ifnull hx hb dX6_walkThrough_42 ?_
            refine lv_iload_n hx hb dX6_walkThrough_45 rfl (lv_at hl 3 rfl) ?_
            refine lv_iconst (v := 1) hx hb dX6_walkThrough_46 (by decide) ?_
            refine lv_iload hx hb dX6_walkThrough_47 (lv_at hl 1 rfl) ?_
            refine lv_ishl hx hb dX6_walkThrough_49 ?_
            refine lv_topi (fun x52 e53 => ?_)
            have t54 : 1 ≤ x52.toInt ∧ x52.toInt ≤ 64 := by rw [e53]; exact hw_sh1b 6 (by decide) (by first | decide | omega) (by first | decide | omega)
            refine lv_icmp_ne (tgt := 67) hx hb dX6_walkThrough_50 (by decide) (fun c55 => ?_) (fun c55 => ?_)
            · have b56 : p1.toInt ≠ x52.toInt := hw_ine c55
              refine lv_aload_n hx hb dX6_walkThrough_67 rfl (lv_at hl 2 rfl) ?_
              refine lv_iload_n hx hb dX6_walkThrough_68 rfl (lv_at hl 3 rfl) ?_
              refine lv_iconst (v := 1) hx hb dX6_walkThrough_69 (by decide) ?_
              refine lv_iload hx hb dX6_walkThrough_70 (lv_at hl 1 rfl) ?_
              refine lv_ishl hx hb dX6_walkThrough_72 ?_
              refine lv_topi (fun x57 e58 => ?_)
              have t59 : 1 ≤ x57.toInt ∧ x57.toInt ≤ 64 := by rw [e58]; exact hw_sh1b 6 (by decide) (by first | decide | omega) (by first | decide | omega)
              refine lv_ixor hx hb dX6_walkThrough_73 ?_
              refine lv_topi (fun x60 e61 => ?_)
              have t62 : 0 ≤ x60.toInt ∧ x60.toInt < 128 := by rw [e61]; exact hw_ixor (k := 7) (by decide) (by first | decide | omega) (by first | decide | omega) (by first | decide | omega) (by first | decide | omega)
              refine lv_aload hx hb dX6_walkThrough_74 (lv_at hl 0 rfl) ?_
              refine lv_aload hx hb dX6_walkThrough_76 (lv_at hl 6 rfl) ?_
              obtain ⟨r63, pa_64, v65, R66⟩ := hH.oP G0
              refine hw_cR (va_runV (As := [.int x60, .ref b24, .ref p4]) (rest := []) ⟨hx, hb, hml, hown, hts⟩ (k_X6_minuteAfter l D G h0 x60 b24 p4 _ G0 k25 G4 (by first | assumption | decide | omega)) (cwV 3 hts gX6_walkThrough_X6_minuteAfter rfl rfl rfl (by decide +kernel) ⟨Nat.le_of_ble_eq_true rfl, Nat.le_of_ble_eq_true rfl⟩) (hw_pV (hw_rc (q := (RX6, TX6, 7)) hK v65 rfl) hH hK hST hS (by decide) (fun _ h => Or.inl h) trivial) rfl rfl hl.1 rfl (lv_room (Nat.le_of_ble_eq_true rfl)) dX6_walkThrough_78 ⟨Nat.le_of_ble_eq_true rfl, Nat.le_of_ble_eq_true rfl⟩) (fun v hp => ?_)
              obtain ⟨x67, rfl⟩ := hp
              refine lv_istore (lv' := [(7, .int x67), (6, .ref b24), (5, .int y5_8), (0, .ref h0), (1, .int p1), (2, .int p2), (3, .int p3), (4, .ref p4)]) hx hb dX6_walkThrough_81 hl (by decide) rfl (fun ls hl => ?_)
              refine lv_aload_n hx hb dX6_walkThrough_83 rfl (lv_at hl 3 rfl) ?_
              refine hw_get hx hb fg_21_5 hK v65 rfl dX6_walkThrough_84 ?_
              refine lv_iload_n hx hb dX6_walkThrough_87 rfl (lv_at hl 4 rfl) ?_
              refine lv_bipush (v := 7) hx hb dX6_walkThrough_88 (by decide) ?_
              refine lv_imul hx hb dX6_walkThrough_90 ?_
              refine lv_topi (fun x68 e69 => ?_)
              have t70 : x68.toInt = p1.toInt * 7 := by rw [e69]; exact hw_mul rfl rfl (by omega) (by omega)
              refine lv_iload hx hb dX6_walkThrough_91 (lv_at hl 2 rfl) ?_
              refine lv_iadd hx hb dX6_walkThrough_93 ?_
              refine lv_topi (fun x71 e72 => ?_)
              have t73 : x71.toInt = x68.toInt + y5_8.toInt := by rw [e72]; exact hw_add rfl rfl (by omega) (by omega)
              refine lv_iload hx hb dX6_walkThrough_94 (lv_at hl 0 rfl) ?_
              refine lv_iconst (v := 2) hx hb dX6_walkThrough_96 (by decide) ?_
              refine lv_iadd hx hb dX6_walkThrough_97 ?_
              refine lv_topi (fun x74 e75 => ?_)
              obtain ⟨f76, v77⟩ := hH.a16 (hw_RP_4 R66)
              refine hw_iast hx hb hK hH v77 (hw_in (by omega) (by omega)) (fun _ => by rw [(hw_RP_4 R66)]; exact ⟨_, rfl⟩) hS (hw_AWi (hw_RP_4 R66) (by decide)) dX6_walkThrough_98 (fun H locs hH v77 oq hz hS => ?_)
              have v16 := va_at.kept v16 (oq _ (hw_ne G4 (hw_RP_4 R66) (by decide)))
              have v65 := va_at.kept v65 (oq _ (hw_ne G0 (hw_RP_4 R66) (by decide)))
              refine lv_aload_n hx hb dX6_walkThrough_99 rfl (lv_at hl 3 rfl) ?_
              refine hw_get hx hb fg_24_5 hK v65 rfl dX6_walkThrough_100 ?_
              refine lv_iload_n hx hb dX6_walkThrough_103 rfl (lv_at hl 4 rfl) ?_
              refine lv_aload_n hx hb dX6_walkThrough_104 rfl (lv_at hl 3 rfl) ?_
              refine hw_get hx hb fg_24_5 hK v65 rfl dX6_walkThrough_105 ?_
              refine lv_iload_n hx hb dX6_walkThrough_108 rfl (lv_at hl 4 rfl) ?_
              obtain ⟨f79, v80⟩ := hH.a17 (hw_RP_5 R66)
              refine hw_iald hx hb hK v80 (hw_in (by omega) (by omega)) dX6_walkThrough_109 ?_
              refine lv_topi (fun x82 e83 => ?_)
              refine lv_iload hx hb dX6_walkThrough_110 (lv_at hl 0 rfl) ?_
              refine lv_iconst (v := 2) hx hb dX6_walkThrough_112 (by decide) ?_
              refine lv_iadd hx hb dX6_walkThrough_113 ?_
              refine lv_topi (fun x84 e85 => ?_)
              refine va_mmin hx hb (hml.trans hl.1.symm) hown (hts (.methodLink RX6 76 Lib.Math.min.name) (by decide +kernel)) (hts (.static Lib.Math.min.name) (by decide +kernel)) (hts (.initialized "java/lang/Math") (by decide +kernel)) (hts (.code Lib.Math.min.name Lib.Math.min.code 2 (some .int)) (by decide +kernel)) (Nat.le_of_ble_eq_true rfl) (Nat.le_of_ble_eq_true rfl) (Nat.le_of_ble_eq_true rfl) (Nat.le_of_ble_eq_true rfl) dX6_walkThrough_114 ?_
              refine lv_topi (fun x86 e87 => ?_)
              have t88 : x86.toInt = min x82.toInt x84.toInt := by rw [e87]; exact hw_min rfl rfl
              obtain ⟨f89, v90⟩ := hH.a17 (hw_RP_5 R66)
              refine hw_iast hx hb hK hH v90 (hw_in (by omega) (by omega)) (fun _ => by rw [(hw_RP_5 R66)]; exact ⟨_, rfl⟩) hS (hw_AWi (hw_RP_5 R66) (by decide)) dX6_walkThrough_117 (fun H locs hH v90 oq hz hS => ?_)
              have v16 := va_at.kept v16 (oq _ (hw_ne G4 (hw_RP_5 R66) (by decide)))
              have v65 := va_at.kept v65 (oq _ (hw_ne G0 (hw_RP_5 R66) (by decide)))
              obtain ⟨x92, e93⟩ : ∃ y : Int32, y = y5_8 + 1 := ⟨_, rfl⟩
              refine lv_iinc (v := x92) (lv' := [(5, .int x92), (7, .int x67), (6, .ref b24), (0, .ref h0), (1, .int p1), (2, .int p2), (3, .int p3), (4, .ref p4)]) hx hb dX6_walkThrough_118 hl (k := 2) rfl (by rw [e93]; rfl) (by decide) rfl (fun ls hl => ?_)
              have t94 : x92.toInt = y5_8.toInt + 1 := by rw [e93]; exact hw_add rfl rfl (by omega) (by omega)
              refine lv_goto (tgt := 11) hx hb dX6_walkThrough_121 (by decide) ?_
              exact ih11 x92 (by first | omega | omega) ⟨by first | decide | omega, by first | decide | omega⟩ _ _ hH hS _ (lv_sub hl [0, 3, 4, 5, 6, 7] rfl)
            · have b95 : p1.toInt = x52.toInt := hw_ieq c55
              refine lv_iload_n hx hb dX6_walkThrough_53 rfl (lv_at hl 5 rfl) ?_
              refine lv_iload_n hx hb dX6_walkThrough_54 rfl (lv_at hl 4 rfl) ?_
              refine lv_aload hx hb dX6_walkThrough_55 (lv_at hl 0 rfl) ?_
              obtain ⟨r96, pl_97, wa_98, py_99, va_100, v101⟩ := hH.oL k25
              refine hw_get hx hb fg_64_3 hK v101 rfl dX6_walkThrough_57 ?_
              refine hw_cR (va_runSN (As := [.int p2, .int pl_97]) (rest := [.int p3]) ⟨hx, hb, hml, hown, hts⟩ (k_X11_minutesBetween l D G p2 pl_97 _) ⟨va_cnB 2 hts gX6_walkThrough_X11_minutesBetween_n69 rfl rfl rfl (hw_en69 hST.ex) (hts (.initialized RX11) (by decide +kernel)) (by decide +kernel) ⟨Nat.le_of_ble_eq_true rfl, Nat.le_of_ble_eq_true rfl⟩, hts (.static yX11_minutesBetween) (by decide +kernel), trivial⟩ (hw_pS hH hK hST hS (by decide) (fun _ h => Or.inl h) trivial) rfl rfl hl.1 rfl (lv_room (Nat.le_of_ble_eq_true rfl)) dX6_walkThrough_60 ⟨Nat.le_of_ble_eq_true rfl, Nat.le_of_ble_eq_true rfl⟩) (fun v hp => ?_)
              obtain ⟨x103, rfl⟩ := hp
              refine lv_iadd hx hb dX6_walkThrough_63 ?_
              refine lv_topi (fun x104 e105 => ?_)
              refine lv_goto (tgt := 81) hx hb dX6_walkThrough_64 (by decide) ?_
              refine lv_istore (lv' := [(7, .int x104), (6, .ref b24), (5, .int y5_8), (0, .ref h0), (1, .int p1), (2, .int p2), (3, .int p3), (4, .ref p4)]) hx hb dX6_walkThrough_81 hl (by decide) rfl (fun ls hl => ?_)
              refine lv_aload_n hx hb dX6_walkThrough_83 rfl (lv_at hl 3 rfl) ?_
              obtain ⟨r106, pa_107, v108, R109⟩ := hH.oP G0
              refine hw_get hx hb fg_21_5 hK v108 rfl dX6_walkThrough_84 ?_
              refine lv_iload_n hx hb dX6_walkThrough_87 rfl (lv_at hl 4 rfl) ?_
              refine lv_bipush (v := 7) hx hb dX6_walkThrough_88 (by decide) ?_
              refine lv_imul hx hb dX6_walkThrough_90 ?_
              refine lv_topi (fun x110 e111 => ?_)
              have t112 : x110.toInt = p1.toInt * 7 := by rw [e111]; exact hw_mul rfl rfl (by omega) (by omega)
              refine lv_iload hx hb dX6_walkThrough_91 (lv_at hl 2 rfl) ?_
              refine lv_iadd hx hb dX6_walkThrough_93 ?_
              refine lv_topi (fun x113 e114 => ?_)
              have t115 : x113.toInt = x110.toInt + y5_8.toInt := by rw [e114]; exact hw_add rfl rfl (by omega) (by omega)
              refine lv_iload hx hb dX6_walkThrough_94 (lv_at hl 0 rfl) ?_
              refine lv_iconst (v := 2) hx hb dX6_walkThrough_96 (by decide) ?_
              refine lv_iadd hx hb dX6_walkThrough_97 ?_
              refine lv_topi (fun x116 e117 => ?_)
              obtain ⟨f118, v119⟩ := hH.a16 (hw_RP_4 R109)
              refine hw_iast hx hb hK hH v119 (hw_in (by omega) (by omega)) (fun _ => by rw [(hw_RP_4 R109)]; exact ⟨_, rfl⟩) hS (hw_AWi (hw_RP_4 R109) (by decide)) dX6_walkThrough_98 (fun H locs hH v119 oq hz hS => ?_)
              have v16 := va_at.kept v16 (oq _ (hw_ne G4 (hw_RP_4 R109) (by decide)))
              have v101 := va_at.kept v101 (oq _ (hw_ne k25 (hw_RP_4 R109) (by decide)))
              have v108 := va_at.kept v108 (oq _ (hw_ne G0 (hw_RP_4 R109) (by decide)))
              refine lv_aload_n hx hb dX6_walkThrough_99 rfl (lv_at hl 3 rfl) ?_
              refine hw_get hx hb fg_24_5 hK v108 rfl dX6_walkThrough_100 ?_
              refine lv_iload_n hx hb dX6_walkThrough_103 rfl (lv_at hl 4 rfl) ?_
              refine lv_aload_n hx hb dX6_walkThrough_104 rfl (lv_at hl 3 rfl) ?_
              refine hw_get hx hb fg_24_5 hK v108 rfl dX6_walkThrough_105 ?_
              refine lv_iload_n hx hb dX6_walkThrough_108 rfl (lv_at hl 4 rfl) ?_
              obtain ⟨f121, v122⟩ := hH.a17 (hw_RP_5 R109)
              refine hw_iald hx hb hK v122 (hw_in (by omega) (by omega)) dX6_walkThrough_109 ?_
              refine lv_topi (fun x124 e125 => ?_)
              refine lv_iload hx hb dX6_walkThrough_110 (lv_at hl 0 rfl) ?_
              refine lv_iconst (v := 2) hx hb dX6_walkThrough_112 (by decide) ?_
              refine lv_iadd hx hb dX6_walkThrough_113 ?_
              refine lv_topi (fun x126 e127 => ?_)
              refine va_mmin hx hb (hml.trans hl.1.symm) hown (hts (.methodLink RX6 76 Lib.Math.min.name) (by decide +kernel)) (hts (.static Lib.Math.min.name) (by decide +kernel)) (hts (.initialized "java/lang/Math") (by decide +kernel)) (hts (.code Lib.Math.min.name Lib.Math.min.code 2 (some .int)) (by decide +kernel)) (Nat.le_of_ble_eq_true rfl) (Nat.le_of_ble_eq_true rfl) (Nat.le_of_ble_eq_true rfl) (Nat.le_of_ble_eq_true rfl) dX6_walkThrough_114 ?_
              refine lv_topi (fun x128 e129 => ?_)
              have t130 : x128.toInt = min x124.toInt x126.toInt := by rw [e129]; exact hw_min rfl rfl
              obtain ⟨f131, v132⟩ := hH.a17 (hw_RP_5 R109)
              refine hw_iast hx hb hK hH v132 (hw_in (by omega) (by omega)) (fun _ => by rw [(hw_RP_5 R109)]; exact ⟨_, rfl⟩) hS (hw_AWi (hw_RP_5 R109) (by decide)) dX6_walkThrough_117 (fun H locs hH v132 oq hz hS => ?_)
              have v16 := va_at.kept v16 (oq _ (hw_ne G4 (hw_RP_5 R109) (by decide)))
              have v101 := va_at.kept v101 (oq _ (hw_ne k25 (hw_RP_5 R109) (by decide)))
              have v108 := va_at.kept v108 (oq _ (hw_ne G0 (hw_RP_5 R109) (by decide)))
              obtain ⟨x134, e135⟩ : ∃ y : Int32, y = y5_8 + 1 := ⟨_, rfl⟩
              refine lv_iinc (v := x134) (lv' := [(5, .int x134), (7, .int x104), (6, .ref b24), (0, .ref h0), (1, .int p1), (2, .int p2), (3, .int p3), (4, .ref p4)]) hx hb dX6_walkThrough_118 hl (k := 2) rfl (by rw [e135]; rfl) (by decide) rfl (fun ls hl => ?_)
              have t136 : x134.toInt = y5_8.toInt + 1 := by rw [e135]; exact hw_add rfl rfl (by omega) (by omega)
              refine lv_goto (tgt := 11) hx hb dX6_walkThrough_121 (by decide) ?_
              exact ih11 x134 (by first | omega | omega) ⟨by first | decide | omega, by first | decide | omega⟩ _ _ hH hS _ (lv_sub hl [0, 3, 4, 5, 6, 7] rfl)
  exact L11 _ 0 (Nat.lt_succ_self _) ⟨by first | decide | omega, by first | decide | omega⟩ _ _ hH hS _ (lv_sub hl [0, 1, 2, 3, 4, 5] rfl)

set_option maxHeartbeats 4000000 in
set_option maxRecDepth 100000 in
theorem k_X6_walkFrom (l : Launch) (D : hw_D) (G : Nat → Nat) (h0 : Nat) (p1 : Int32) (p2 : Int32) (p3 : Int32) (p4 : Nat) (sz : Nat) (G0 : G h0 = 5) (G4 : G p4 = 2) : Met l yX6_walkFrom wsX6_walkFrom ({ frames := 4, cells := 0, slots := 0, locals := 88 } : Room) (hw_PC D G [.ref h0, .int p1, .int p2, .int p3, .ref p4] sz (fun H => True)) (hw_QM (fun v H => v = none ∧ hw_HT D G H) (hw_AW G [16, 17] sz)) 0 0 (hw_AW G [16, 17] sz) := by
  refine hw_met (cc := cX6_walkFrom) (maxL := 6) (ret := none) (plainFor_of_name (by decide)) rfl (Nat.le_of_ble_eq_true rfl) ?_
  intro p e s m args below meth c QQ ls hsz hx hb hml hr hts hown hlocks hnm hH hK hST hF hQ hl
  subst hsz
  have hS : va_S (hw_AW G [16, 17] s.heap.size) s.heap s.heap [] := va_S.rf
  have hl : lv_has ls 6 [(0, .ref h0), (1, .int p1), (2, .int p2), (3, .int p3), (4, .ref p4)] := hl
  refine lv_iconst (v := 1) hx hb dX6_walkFrom_0 (by decide) ?_
  refine lv_istore (lv' := [(5, .int 1), (0, .ref h0), (1, .int p1), (2, .int p2), (3, .int p3), (4, .ref p4)]) hx hb dX6_walkFrom_1 hl (by decide) rfl (fun ls hl => ?_)
  have L3 : ∀ (n3 : Nat) (y5_1 : Int32) (hm : (128 - y5_1.toInt).toNat < n3) (g2 : 1 ≤ y5_1.toInt ∧ y5_1.toInt ≤ 128) (H : Heap) (locs : List Loc) (hH : hw_HT D G H) (hS : va_S (hw_AW G [16, 17] s.heap.size) s.heap H locs) (ls : Array Slot) (hl : lv_has ls 6 [(5, .int y5_1), (0, .ref h0), (1, .int p1), (2, .int p2), (3, .int p3), (4, .ref p4)]), W p l e ({ frames := 4, cells := 0, slots := 0, locals := 88 } : Room) s m args below meth c H locs 0 0 QQ (F0 m 3 ls []) := by
    intro n3
    induction n3 with
    | zero => intro y5_1 hm; exact absurd hm (Nat.not_lt_zero _)
    | succ n3 ih3 =>
      intro y5_1 hm g2 H locs hH hS ls hl
      refine lv_iload hx hb dX6_walkFrom_3 (lv_at hl 0 rfl) ?_
      refine lv_sipush (v := 128) hx hb dX6_walkFrom_5 (by decide) ?_
      refine lv_icmp_ge (tgt := 36) hx hb dX6_walkFrom_8 (by decide) (fun c4 => ?_) (fun c4 => ?_)
      · have b5 : 128 ≤ y5_1.toInt := hw_ile c4
        exact hw_vretM hx hb hr hlocks hQ hS (⟨rfl, hH⟩) dX6_walkFrom_36
      · have b6 : y5_1.toInt < 128 := hw_inle c4
        refine lv_iload hx hb dX6_walkFrom_11 (lv_at hl 0 rfl) ?_
        refine lv_iload_n hx hb dX6_walkFrom_13 rfl (lv_at hl 4 rfl) ?_
        refine lv_iconst (v := (-1)) hx hb dX6_walkFrom_14 (by decide) ?_
        refine lv_ixor hx hb dX6_walkFrom_15 ?_
        refine lv_topi (fun x7 e8 => ?_)
        refine lv_iand hx hb dX6_walkFrom_16 ?_
        refine lv_topi (fun x9 e10 => ?_)
        have t11 : 0 ≤ x9.toInt ∧ x9.toInt ≤ y5_1.toInt := by rw [e10]; exact hw_and2 (by first | decide | omega)
        refine lv_if_ne (tgt := 30) hx hb dX6_walkFrom_17 (by decide) (fun c12 => ?_) (fun c12 => ?_)
        · have b13 : x9.toInt ≠ 0 := hw_ine c12
          obtain ⟨x14, e15⟩ : ∃ y : Int32, y = y5_1 + 1 := ⟨_, rfl⟩
          refine lv_iinc (v := x14) (lv' := [(5, .int x14), (0, .ref h0), (1, .int p1), (2, .int p2), (3, .int p3), (4, .ref p4)]) hx hb dX6_walkFrom_30 hl (k := 0) rfl (by rw [e15]; rfl) (by decide) rfl (fun ls hl => ?_)
          have t16 : x14.toInt = y5_1.toInt + 1 := by rw [e15]; exact hw_add rfl rfl (by omega) (by omega)
          refine lv_goto (tgt := 3) hx hb dX6_walkFrom_33 (by decide) ?_
          exact ih3 x14 (by first | omega | omega) ⟨by first | decide | omega, by first | decide | omega⟩ _ _ hH hS _ (lv_sub hl [0, 1, 2, 3, 4, 5] rfl)
        · have b17 : x9.toInt = 0 := hw_ieq c12
          refine lv_aload_n hx hb dX6_walkFrom_20 rfl (lv_at hl 1 rfl) ?_
          refine lv_iload hx hb dX6_walkFrom_21 (lv_at hl 0 rfl) ?_
          refine lv_iload_n hx hb dX6_walkFrom_23 rfl (lv_at hl 2 rfl) ?_
          refine lv_iload_n hx hb dX6_walkFrom_24 rfl (lv_at hl 3 rfl) ?_
          refine lv_aload hx hb dX6_walkFrom_25 (lv_at hl 5 rfl) ?_
          obtain ⟨r18, pa_19, v20, R21⟩ := hH.oP G0
          refine hw_cM0 (va_runV (As := [.int y5_1, .int p1, .int p2, .ref p4]) (rest := []) ⟨hx, hb, hml, hown, hts⟩ (k_X6_walkThrough l D G h0 y5_1 p1 p2 p4 _ G0 G4 (by first | assumption | decide | omega)) (cwV 4 hts gX6_walkFrom_X6_walkThrough rfl rfl rfl (by decide +kernel) ⟨Nat.le_of_ble_eq_true rfl, Nat.le_of_ble_eq_true rfl⟩) (hw_pV (hw_rc (q := (RX6, TX6, 7)) hK v20 rfl) hH hK hST hS (by decide) (fun _ h => Or.inl h) trivial) rfl rfl hl.1 rfl (lv_room (Nat.le_of_ble_eq_true rfl)) dX6_walkFrom_27 ⟨Nat.le_of_ble_eq_true rfl, Nat.le_of_ble_eq_true rfl⟩) hS (hw_AWsub (by decide) (fun _ _ => rfl) hS.1) (fun v H locs hp hz hk hS => ?_)
          obtain ⟨rfl, hH⟩ := hp
          have v20 := va_at.kept v20 (hk _ (hw_lt v20) (hw_AWn G0 (by decide) (hw_lt v20)))
          obtain ⟨x22, e23⟩ : ∃ y : Int32, y = y5_1 + 1 := ⟨_, rfl⟩
          refine lv_iinc (v := x22) (lv' := [(5, .int x22), (0, .ref h0), (1, .int p1), (2, .int p2), (3, .int p3), (4, .ref p4)]) hx hb dX6_walkFrom_30 hl (k := 0) rfl (by rw [e23]; rfl) (by decide) rfl (fun ls hl => ?_)
          have t24 : x22.toInt = y5_1.toInt + 1 := by rw [e23]; exact hw_add rfl rfl (by omega) (by omega)
          refine lv_goto (tgt := 3) hx hb dX6_walkFrom_33 (by decide) ?_
          exact ih3 x22 (by first | omega | omega) ⟨by first | decide | omega, by first | decide | omega⟩ _ _ hH hS _ (lv_sub hl [0, 1, 2, 3, 4, 5] rfl)
  exact L3 _ 1 (Nat.lt_succ_self _) ⟨by first | decide | omega, by first | decide | omega⟩ _ _ hH hS _ (lv_sub hl [0, 1, 2, 3, 4, 5] rfl)

set_option maxHeartbeats 4000000 in
set_option maxRecDepth 100000 in
theorem k_X6_shareWith (l : Launch) (D : hw_D) (G : Nat → Nat) (h0 : Nat) (p1 : Int32) (sz : Nat) (G0 : G h0 = 5) : Met l yX6_shareWith wsX6_shareWith ({ frames := 1, cells := 0, slots := 0, locals := 16 } : Room) (hw_PC D G [.ref h0, .int p1] sz (fun H => True)) (hw_QM (fun v H => v = none ∧ hw_HT D G H) (hw_AW G [18] sz)) 0 0 (hw_AW G [18] sz) := by
  refine hw_met (cc := cX6_shareWith) (maxL := 4) (ret := none) (plainFor_of_name (by decide)) rfl (Nat.le_of_ble_eq_true rfl) ?_
  intro p e s m args below meth c QQ ls hsz hx hb hml hr hts hown hlocks hnm hH hK hST hF hQ hl
  subst hsz
  have hS : va_S (hw_AW G [18] s.heap.size) s.heap s.heap [] := va_S.rf
  have hl : lv_has ls 4 [(0, .ref h0), (1, .int p1)] := hl
  have u_5 : ∀ w ∈ u_ws RX6 TX6 7, w.before args s = true := fun w hw => hts w ((by decide +kernel : ∀ w ∈ u_ws RX6 TX6 7, w ∈ wsX6_shareWith) w hw)
  have fg_27_5 : hw_FG s args m 27 5 6 := ⟨RX6, "WardWalkers$Planner", RX6, TX6, 7, u_5, hown, rfl, by decide, (hts (.fieldLink RX6 27 "WardWalkers$Planner" "latest" "[I") (by decide +kernel)), (fun _ h9 => h9)⟩
  have fg_24_5 : hw_FG s args m 24 5 5 := ⟨RX6, "WardWalkers$Planner", RX6, TX6, 7, u_5, hown, rfl, by decide, (hts (.fieldLink RX6 24 "WardWalkers$Planner" "tour" "[I") (by decide +kernel)), (fun _ h9 => h9)⟩
  refine lv_bipush (v := 127) hx hb dX6_shareWith_0 (by decide) ?_
  refine lv_istore_n (lv' := [(2, .int 127), (0, .ref h0), (1, .int p1)]) hx hb dX6_shareWith_2 rfl hl (by decide) rfl (fun ls hl => ?_)
  have L3 : ∀ (n3 : Nat) (y2_1 : Int32) (hm : (y2_1.toInt).toNat < n3) (g2 : 0 ≤ y2_1.toInt ∧ y2_1.toInt ≤ 127) (H : Heap) (locs : List Loc) (hH : hw_HT D G H) (hS : va_S (hw_AW G [18] s.heap.size) s.heap H locs) (ls : Array Slot) (hl : lv_has ls 4 [(2, .int y2_1), (0, .ref h0), (1, .int p1)]), W p l e ({ frames := 1, cells := 0, slots := 0, locals := 16 } : Room) s m args below meth c H locs 0 0 QQ (F0 m 3 ls []) := by
    intro n3
    induction n3 with
    | zero => intro y2_1 hm; exact absurd hm (Nat.not_lt_zero _)
    | succ n3 ih3 =>
      intro y2_1 hm g2 H locs hH hS ls hl
      refine lv_iload_n hx hb dX6_shareWith_3 rfl (lv_at hl 0 rfl) ?_
      refine lv_if_le (tgt := 68) hx hb dX6_shareWith_4 (by decide) (fun c4 => ?_) (fun c4 => ?_)
      · have b5 : y2_1.toInt ≤ 0 := hw_ile c4
        exact hw_vretM hx hb hr hlocks hQ hS (⟨rfl, hH⟩) dX6_shareWith_68
      · have b6 : 0 < y2_1.toInt := hw_inle c4
        refine lv_iload_n hx hb dX6_shareWith_7 rfl (lv_at hl 0 rfl) ?_
        refine lv_iload_n hx hb dX6_shareWith_8 rfl (lv_at hl 2 rfl) ?_
        refine lv_iconst (v := (-1)) hx hb dX6_shareWith_9 (by decide) ?_
        refine lv_ixor hx hb dX6_shareWith_10 ?_
        refine lv_topi (fun x7 e8 => ?_)
        refine lv_iand hx hb dX6_shareWith_11 ?_
        refine lv_topi (fun x9 e10 => ?_)
        have t11 : 0 ≤ x9.toInt ∧ x9.toInt ≤ y2_1.toInt := by rw [e10]; exact hw_and2 (by first | decide | omega)
        refine lv_if_ne (tgt := 62) hx hb dX6_shareWith_12 (by decide) (fun c12 => ?_) (fun c12 => ?_)
        · have b13 : x9.toInt ≠ 0 := hw_ine c12
          obtain ⟨x14, e15⟩ : ∃ y : Int32, y = y2_1 + (-1) := ⟨_, rfl⟩
          refine lv_iinc (v := x14) (lv' := [(2, .int x14), (0, .ref h0), (1, .int p1)]) hx hb dX6_shareWith_62 hl (k := 0) rfl (by rw [e15]; rfl) (by decide) rfl (fun ls hl => ?_)
          have t16 : x14.toInt = y2_1.toInt + (-1) := by rw [e15]; exact hw_add rfl rfl (by omega) (by omega)
          refine lv_goto (tgt := 3) hx hb dX6_shareWith_65 (by decide) ?_
          exact ih3 x14 (by first | omega | omega) ⟨by first | decide | omega, by first | decide | omega⟩ _ _ hH hS _ (lv_sub hl [0, 1, 2] rfl)
        · have b17 : x9.toInt = 0 := hw_ieq c12
          refine lv_iload_n hx hb dX6_shareWith_15 rfl (lv_at hl 0 rfl) ?_
          refine lv_istore_n (lv' := [(3, .int y2_1), (2, .int y2_1), (0, .ref h0), (1, .int p1)]) hx hb dX6_shareWith_16 rfl hl (by decide) rfl (fun ls hl => ?_)
          have L17 : ∀ (n20 : Nat) (y3_18 : Int32) (hm : (y3_18.toInt).toNat < n20) (g19 : 0 ≤ y3_18.toInt ∧ y3_18.toInt ≤ 127) (H : Heap) (locs : List Loc) (hH : hw_HT D G H) (hS : va_S (hw_AW G [18] s.heap.size) s.heap H locs) (ls : Array Slot) (hl : lv_has ls 4 [(3, .int y3_18), (2, .int y2_1), (0, .ref h0), (1, .int p1)]), W p l e ({ frames := 1, cells := 0, slots := 0, locals := 16 } : Room) s m args below meth c H locs 0 0 QQ (F0 m 17 ls []) := by
            intro n20
            induction n20 with
            | zero => intro y3_18 hm; exact absurd hm (Nat.not_lt_zero _)
            | succ n20 ih17 =>
              intro y3_18 hm g19 H locs hH hS ls hl
              refine lv_iload_n hx hb dX6_shareWith_17 rfl (lv_at hl 0 rfl) ?_
              refine lv_if_le (tgt := 62) hx hb dX6_shareWith_18 (by decide) (fun c21 => ?_) (fun c21 => ?_)
              · have b22 : y3_18.toInt ≤ 0 := hw_ile c21
                obtain ⟨x23, e24⟩ : ∃ y : Int32, y = y2_1 + (-1) := ⟨_, rfl⟩
                refine lv_iinc (v := x23) (lv' := [(2, .int x23), (3, .int y3_18), (0, .ref h0), (1, .int p1)]) hx hb dX6_shareWith_62 hl (k := 1) rfl (by rw [e24]; rfl) (by decide) rfl (fun ls hl => ?_)
                have t25 : x23.toInt = y2_1.toInt + (-1) := by rw [e24]; exact hw_add rfl rfl (by omega) (by omega)
                refine lv_goto (tgt := 3) hx hb dX6_shareWith_65 (by decide) ?_
                exact ih3 x23 (by first | omega | omega) ⟨by first | decide | omega, by first | decide | omega⟩ _ _ hH hS _ (lv_sub hl [0, 2, 3] rfl)
              · have b26 : 0 < y3_18.toInt := hw_inle c21
                refine lv_aload_n hx hb dX6_shareWith_21 rfl (lv_at hl 2 rfl) ?_
                obtain ⟨r27, pa_28, v29, R30⟩ := hH.oP G0
                refine hw_get hx hb fg_27_5 hK v29 rfl dX6_shareWith_22 ?_
                refine lv_iload_n hx hb dX6_shareWith_25 rfl (lv_at hl 1 rfl) ?_
                refine lv_aload_n hx hb dX6_shareWith_26 rfl (lv_at hl 2 rfl) ?_
                refine hw_get hx hb fg_27_5 hK v29 rfl dX6_shareWith_27 ?_
                refine lv_iload_n hx hb dX6_shareWith_30 rfl (lv_at hl 1 rfl) ?_
                obtain ⟨f31, v32⟩ := hH.a18 (hw_RP_6 R30)
                refine hw_iald hx hb hK v32 (hw_in (by omega) (by omega)) dX6_shareWith_31 ?_
                refine lv_topi (fun x34 e35 => ?_)
                refine lv_aload_n hx hb dX6_shareWith_32 rfl (lv_at hl 2 rfl) ?_
                refine hw_get hx hb fg_27_5 hK v29 rfl dX6_shareWith_33 ?_
                refine lv_iload_n hx hb dX6_shareWith_36 rfl (lv_at hl 1 rfl) ?_
                refine lv_iload_n hx hb dX6_shareWith_37 rfl (lv_at hl 0 rfl) ?_
                refine lv_ixor hx hb dX6_shareWith_38 ?_
                refine lv_topi (fun x36 e37 => ?_)
                have t38 : 0 ≤ x36.toInt ∧ x36.toInt < 128 := by rw [e37]; exact hw_ixor (k := 7) (by decide) (by first | decide | omega) (by first | decide | omega) (by first | decide | omega) (by first | decide | omega)
                obtain ⟨f39, v40⟩ := hH.a18 (hw_RP_6 R30)
                refine hw_iald hx hb hK v40 (hw_in (by omega) (by omega)) dX6_shareWith_39 ?_
                refine lv_topi (fun x42 e43 => ?_)
                refine lv_aload_n hx hb dX6_shareWith_40 rfl (lv_at hl 2 rfl) ?_
                refine hw_get hx hb fg_24_5 hK v29 rfl dX6_shareWith_41 ?_
                refine lv_iload_n hx hb dX6_shareWith_44 rfl (lv_at hl 0 rfl) ?_
                obtain ⟨f44, v45⟩ := hH.a17 (hw_RP_5 R30)
                refine hw_iald hx hb hK v45 (hw_in (by omega) (by omega)) dX6_shareWith_45 ?_
                refine lv_topi (fun x47 e48 => ?_)
                refine va_mmax hx hb (hml.trans hl.1.symm) hown (hts (.methodLink RX6 45 Lib.Math.max.name) (by decide +kernel)) (hts (.static Lib.Math.max.name) (by decide +kernel)) (hts (.initialized "java/lang/Math") (by decide +kernel)) (hts (.code Lib.Math.max.name Lib.Math.max.code 2 (some .int)) (by decide +kernel)) (Nat.le_of_ble_eq_true rfl) (Nat.le_of_ble_eq_true rfl) (Nat.le_of_ble_eq_true rfl) (Nat.le_of_ble_eq_true rfl) dX6_shareWith_46 ?_
                refine lv_topi (fun x49 e50 => ?_)
                have t51 : x49.toInt = max x42.toInt x47.toInt := by rw [e50]; exact hw_max rfl rfl
                refine va_mmin hx hb (hml.trans hl.1.symm) hown (hts (.methodLink RX6 76 Lib.Math.min.name) (by decide +kernel)) (hts (.static Lib.Math.min.name) (by decide +kernel)) (hts (.initialized "java/lang/Math") (by decide +kernel)) (hts (.code Lib.Math.min.name Lib.Math.min.code 2 (some .int)) (by decide +kernel)) (Nat.le_of_ble_eq_true rfl) (Nat.le_of_ble_eq_true rfl) (Nat.le_of_ble_eq_true rfl) (Nat.le_of_ble_eq_true rfl) dX6_shareWith_49 ?_
                refine lv_topi (fun x52 e53 => ?_)
                have t54 : x52.toInt = min x34.toInt x49.toInt := by rw [e53]; exact hw_min rfl rfl
                obtain ⟨f55, v56⟩ := hH.a18 (hw_RP_6 R30)
                refine hw_iast hx hb hK hH v56 (hw_in (by omega) (by omega)) (fun _ => by rw [(hw_RP_6 R30)]; exact ⟨_, rfl⟩) hS (hw_AWi (hw_RP_6 R30) (by decide)) dX6_shareWith_52 (fun H locs hH v56 oq hz hS => ?_)
                have v29 := va_at.kept v29 (oq _ (hw_ne G0 (hw_RP_6 R30) (by decide)))
                refine lv_iload_n hx hb dX6_shareWith_53 rfl (lv_at hl 0 rfl) ?_
                refine lv_iconst (v := 1) hx hb dX6_shareWith_54 (by decide) ?_
                refine lv_isub hx hb dX6_shareWith_55 ?_
                refine lv_topi (fun x58 e59 => ?_)
                have t60 : x58.toInt = y3_18.toInt - 1 := by rw [e59]; exact hw_sub rfl rfl (by omega) (by omega)
                refine lv_iload_n hx hb dX6_shareWith_56 rfl (lv_at hl 1 rfl) ?_
                refine lv_iand hx hb dX6_shareWith_57 ?_
                refine lv_topi (fun x61 e62 => ?_)
                have t63 : 0 ≤ x61.toInt ∧ x61.toInt ≤ y2_1.toInt := by rw [e62]; exact hw_and (by first | decide | omega)
                have t64 : 0 ≤ x61.toInt ∧ x61.toInt ≤ x58.toInt := by rw [e62]; exact hw_and2 (by first | decide | omega)
                refine lv_istore_n (lv' := [(3, .int x61), (2, .int y2_1), (0, .ref h0), (1, .int p1)]) hx hb dX6_shareWith_58 rfl hl (by decide) rfl (fun ls hl => ?_)
                refine lv_goto (tgt := 17) hx hb dX6_shareWith_59 (by decide) ?_
                exact ih17 x61 (by first | omega | omega) ⟨by first | decide | omega, by first | decide | omega⟩ _ _ hH hS _ (lv_sub hl [0, 1, 2, 3] rfl)
          exact L17 _ y2_1 (Nat.lt_succ_self _) ⟨by first | decide | omega, by first | decide | omega⟩ _ _ hH hS _ (lv_sub hl [0, 1, 2, 3] rfl)
  exact L3 _ 127 (Nat.lt_succ_self _) ⟨by first | decide | omega, by first | decide | omega⟩ _ _ hH hS _ (lv_sub hl [0, 1, 2] rfl)

set_option maxHeartbeats 4000000 in
set_option maxRecDepth 100000 in
theorem k_X6_fewestFor (l : Launch) (D : hw_D) (G : Nat → Nat) (h0 : Nat) (p1 : Int32) (sz : Nat) (G0 : G h0 = 5) : Met l yX6_fewestFor wsX6_fewestFor ({ frames := 1, cells := 0, slots := 0, locals := 20 } : Room) (hw_PC D G [.ref h0, .int p1] sz (fun H => True)) (hw_QR (fun v => ∃ (r : Int32), v = .int r)) 0 0 (fun _ => False) := by
  refine hw_met (cc := cX6_fewestFor) (maxL := 4) (ret := (some .int)) (plainFor_of_name (by decide)) rfl (Nat.le_of_ble_eq_true rfl) ?_
  intro p e s m args below meth c QQ ls hsz hx hb hml hr hts hown hlocks hnm hH hK hST hF hQ hl
  subst hsz
  have hS : va_S (hw_AW G [] s.heap.size) s.heap s.heap [] := va_S.rf
  have hl : lv_has ls 4 [(0, .ref h0), (1, .int p1)] := hl
  have u_5 : ∀ w ∈ u_ws RX6 TX6 7, w.before args s = true := fun w hw => hts w ((by decide +kernel : ∀ w ∈ u_ws RX6 TX6 7, w ∈ wsX6_fewestFor) w hw)
  have fg_27_5 : hw_FG s args m 27 5 6 := ⟨RX6, "WardWalkers$Planner", RX6, TX6, 7, u_5, hown, rfl, by decide, (hts (.fieldLink RX6 27 "WardWalkers$Planner" "latest" "[I") (by decide +kernel)), (fun _ h9 => h9)⟩
  refine lv_ldc (v := 1000000) hx hb hown (hts (.constant RX6 50 (1000000)) (by decide +kernel)) dX6_fewestFor_0 ?_
  refine lv_istore_n (lv' := [(2, .int 1000000), (0, .ref h0), (1, .int p1)]) hx hb dX6_fewestFor_2 rfl hl (by decide) rfl (fun ls hl => ?_)
  refine lv_iconst (v := 1) hx hb dX6_fewestFor_3 (by decide) ?_
  refine lv_istore_n (lv' := [(3, .int 1), (2, .int 1000000), (0, .ref h0), (1, .int p1)]) hx hb dX6_fewestFor_4 rfl hl (by decide) rfl (fun ls hl => ?_)
  have L5 : ∀ (n4 : Nat) (y3_1 : Int32) (y2_2 : Int32) (hm : (128 - y3_1.toInt).toNat < n4) (g3 : 1 ≤ y3_1.toInt ∧ y3_1.toInt ≤ 128) (ls : Array Slot) (hl : lv_has ls 4 [(3, .int y3_1), (2, .int y2_2), (0, .ref h0), (1, .int p1)]), W p l e ({ frames := 1, cells := 0, slots := 0, locals := 20 } : Room) s m args below meth c s.heap [] 0 0 QQ (F0 m 5 ls []) := by
    intro n4
    induction n4 with
    | zero => intro y3_1 y2_2 hm; exact absurd hm (Nat.not_lt_zero _)
    | succ n4 ih5 =>
      intro y3_1 y2_2 hm g3 ls hl
      refine lv_iload_n hx hb dX6_fewestFor_5 rfl (lv_at hl 0 rfl) ?_
      refine lv_sipush (v := 128) hx hb dX6_fewestFor_6 (by decide) ?_
      refine lv_icmp_ge (tgt := 37) hx hb dX6_fewestFor_9 (by decide) (fun c5 => ?_) (fun c5 => ?_)
      · have b6 : 128 ≤ y3_1.toInt := hw_ile c5
        refine lv_iload_n hx hb dX6_fewestFor_37 rfl (lv_at hl 1 rfl) ?_
        refine lv_ldc (v := 1000000) hx hb hown (hts (.constant RX6 50 (1000000)) (by decide +kernel)) dX6_fewestFor_38 ?_
        refine lv_icmp_ge (tgt := 47) hx hb dX6_fewestFor_40 (by decide) (fun c7 => ?_) (fun c7 => ?_)
        · have b8 : 1000000 ≤ y2_2.toInt := hw_ile c7
          refine lv_iconst (v := (-1)) hx hb dX6_fewestFor_47 (by decide) ?_
          exact hw_iretR (v := (-1)) hx hb hr hlocks hQ rfl (⟨(-1), rfl⟩) dX6_fewestFor_48
        · have b9 : y2_2.toInt < 1000000 := hw_inle c7
          refine lv_iload_n hx hb dX6_fewestFor_43 rfl (lv_at hl 1 rfl) ?_
          refine lv_goto (tgt := 48) hx hb dX6_fewestFor_44 (by decide) ?_
          exact hw_iretR (v := y2_2) hx hb hr hlocks hQ rfl (⟨y2_2, rfl⟩) dX6_fewestFor_48
      · have b10 : y3_1.toInt < 128 := hw_inle c5
        refine lv_iload_n hx hb dX6_fewestFor_12 rfl (lv_at hl 0 rfl) ?_
        refine hw_cR (va_runS (As := [.int y3_1]) (rest := []) ⟨hx, hb, hml, hown, hts⟩ (k_J6_bitCount_0f7a4 l D G y3_1 _) (va_cwS 1 hts gX6_fewestFor_J6_bitCount_0f7a4 rfl rfl rfl (by decide +kernel) ⟨Nat.le_of_ble_eq_true rfl, Nat.le_of_ble_eq_true rfl⟩) (hw_pS hH hK hST hS (by decide) (fun _ h => Or.inl h) trivial) rfl rfl hl.1 rfl (lv_room (Nat.le_of_ble_eq_true rfl)) dX6_fewestFor_13 ⟨Nat.le_of_ble_eq_true rfl, Nat.le_of_ble_eq_true rfl⟩) (fun v hp => ?_)
        obtain ⟨x11, rfl, g12⟩ := hp
        refine lv_iload_n hx hb dX6_fewestFor_16 rfl (lv_at hl 3 rfl) ?_
        refine lv_icmp_ne (tgt := 31) hx hb dX6_fewestFor_17 (by decide) (fun c13 => ?_) (fun c13 => ?_)
        · have b14 : x11.toInt ≠ p1.toInt := hw_ine c13
          obtain ⟨x15, e16⟩ : ∃ y : Int32, y = y3_1 + 1 := ⟨_, rfl⟩
          refine lv_iinc (v := x15) (lv' := [(3, .int x15), (2, .int y2_2), (0, .ref h0), (1, .int p1)]) hx hb dX6_fewestFor_31 hl (k := 0) rfl (by rw [e16]; rfl) (by decide) rfl (fun ls hl => ?_)
          have t17 : x15.toInt = y3_1.toInt + 1 := by rw [e16]; exact hw_add rfl rfl (by omega) (by omega)
          refine lv_goto (tgt := 5) hx hb dX6_fewestFor_34 (by decide) ?_
          exact ih5 x15 y2_2 (by first | omega | omega) ⟨by first | decide | omega, by first | decide | omega⟩ _ (lv_sub hl [0, 1, 2, 3] rfl)
        · have b18 : x11.toInt = p1.toInt := hw_ieq c13
          refine lv_iload_n hx hb dX6_fewestFor_20 rfl (lv_at hl 1 rfl) ?_
          refine lv_aload_n hx hb dX6_fewestFor_21 rfl (lv_at hl 2 rfl) ?_
          obtain ⟨r19, pa_20, v21, R22⟩ := hH.oP G0
          refine hw_get hx hb fg_27_5 hK v21 rfl dX6_fewestFor_22 ?_
          refine lv_iload_n hx hb dX6_fewestFor_25 rfl (lv_at hl 0 rfl) ?_
          obtain ⟨f23, v24⟩ := hH.a18 (hw_RP_6 R22)
          refine hw_iald hx hb hK v24 (hw_in (by omega) (by omega)) dX6_fewestFor_26 ?_
          refine lv_topi (fun x26 e27 => ?_)
          refine va_mmin hx hb (hml.trans hl.1.symm) hown (hts (.methodLink RX6 76 Lib.Math.min.name) (by decide +kernel)) (hts (.static Lib.Math.min.name) (by decide +kernel)) (hts (.initialized "java/lang/Math") (by decide +kernel)) (hts (.code Lib.Math.min.name Lib.Math.min.code 2 (some .int)) (by decide +kernel)) (Nat.le_of_ble_eq_true rfl) (Nat.le_of_ble_eq_true rfl) (Nat.le_of_ble_eq_true rfl) (Nat.le_of_ble_eq_true rfl) dX6_fewestFor_27 ?_
          refine lv_topi (fun x28 e29 => ?_)
          have t30 : x28.toInt = min y2_2.toInt x26.toInt := by rw [e29]; exact hw_min rfl rfl
          refine lv_istore_n (lv' := [(2, .int x28), (3, .int y3_1), (0, .ref h0), (1, .int p1)]) hx hb dX6_fewestFor_30 rfl hl (by decide) rfl (fun ls hl => ?_)
          obtain ⟨x31, e32⟩ : ∃ y : Int32, y = y3_1 + 1 := ⟨_, rfl⟩
          refine lv_iinc (v := x31) (lv' := [(3, .int x31), (2, .int x28), (0, .ref h0), (1, .int p1)]) hx hb dX6_fewestFor_31 hl (k := 1) rfl (by rw [e32]; rfl) (by decide) rfl (fun ls hl => ?_)
          have t33 : x31.toInt = y3_1.toInt + 1 := by rw [e32]; exact hw_add rfl rfl (by omega) (by omega)
          refine lv_goto (tgt := 5) hx hb dX6_fewestFor_34 (by decide) ?_
          exact ih5 x31 x28 (by first | omega | omega) ⟨by first | decide | omega, by first | decide | omega⟩ _ (lv_sub hl [0, 1, 2, 3] rfl)
  exact L5 _ 1 1000000 (Nat.lt_succ_self _) ⟨by first | decide | omega, by first | decide | omega⟩ _ (lv_sub hl [0, 1, 2, 3] rfl)
