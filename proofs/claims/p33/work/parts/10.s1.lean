set_option maxHeartbeats 4000000 in
set_option maxRecDepth 100000 in
theorem k_X9_bentOf (l : Launch) (D : hw_D) (G : Nat → Nat) (h0 : Nat) (p1 : Int32) (sz : Nat) (G0 : G h0 = 7) : Met l yX9_bentOf wsX9_bentOf ({ frames := 0, cells := 0, slots := 0, locals := 0 } : Room) (hw_PC D G [.ref h0, .int p1] sz (fun H => True)) (hw_QR (fun v => ∃ (r : Int32), v = .int r)) 0 0 (fun _ => False) := by
  refine hw_met (cc := cX9_bentOf) (maxL := 2) (ret := (some .int)) (plainFor_of_name (by decide)) rfl (Nat.le_of_ble_eq_true rfl) ?_
  intro p e s m args below meth c QQ ls hsz hx hb hml hr hts hown hlocks hnm hH hK hST hF hQ hl
  subst hsz
  have hS : va_S (hw_AW G [] s.heap.size) s.heap s.heap [] := va_S.rf
  have hl : lv_has ls 2 [(0, .ref h0), (1, .int p1)] := hl
  have u_8 : ∀ w ∈ u_ws RX9 TX9 7, w.before args s = true := fun w hw => hts w ((by decide +kernel : ∀ w ∈ u_ws RX9 TX9 7, w ∈ wsX9_bentOf) w hw)
  have fg_9_8 : hw_FG s args m 9 8 3 := ⟨RX9, "WardWalkers$Standing", RX9, TX9, 7, u_8, hown, rfl, by decide, (hts (.fieldLink RX9 9 "WardWalkers$Standing" "bent" "[I") (by decide +kernel)), (fun _ h9 => h9)⟩
  refine lv_iload_n hx hb dX9_bentOf_0 rfl (lv_at hl 1 rfl) ?_
  refine lv_if_lt (tgt := 19) hx hb dX9_bentOf_1 (by decide) (fun c1 => ?_) (fun c1 => ?_)
  · have b2 : p1.toInt < 0 := hw_ilt c1
    refine lv_iconst (v := 0) hx hb dX9_bentOf_19 (by decide) ?_
    exact hw_iretR (v := 0) hx hb hr hlocks hQ rfl (⟨0, rfl⟩) dX9_bentOf_20
  · have b3 : 0 ≤ p1.toInt := hw_inlt c1
    refine lv_iload_n hx hb dX9_bentOf_4 rfl (lv_at hl 1 rfl) ?_
    refine lv_bipush (v := 7) hx hb dX9_bentOf_5 (by decide) ?_
    refine lv_icmp_ge (tgt := 19) hx hb dX9_bentOf_7 (by decide) (fun c4 => ?_) (fun c4 => ?_)
    · have b5 : 7 ≤ p1.toInt := hw_ile c4
      refine lv_iconst (v := 0) hx hb dX9_bentOf_19 (by decide) ?_
      exact hw_iretR (v := 0) hx hb hr hlocks hQ rfl (⟨0, rfl⟩) dX9_bentOf_20
    · have b6 : p1.toInt < 7 := hw_inle c4
      refine lv_aload_n hx hb dX9_bentOf_10 rfl (lv_at hl 0 rfl) ?_
      obtain ⟨r7, td_8, fd_9, os_10, v11, R12⟩ := hH.oS G0
      refine hw_get hx hb fg_9_8 hK v11 rfl dX9_bentOf_11 ?_
      refine lv_iload_n hx hb dX9_bentOf_14 rfl (lv_at hl 1 rfl) ?_
      obtain ⟨f13, v14⟩ := hH.a20 (hw_RS_3 R12)
      refine hw_iald hx hb hK v14 (hw_in (by omega) (by omega)) dX9_bentOf_15 ?_
      refine lv_topi (fun x16 e17 => ?_)
      refine lv_goto (tgt := 20) hx hb dX9_bentOf_16 (by decide) ?_
      exact hw_iretR (v := x16) hx hb hr hlocks hQ rfl (⟨x16, rfl⟩) dX9_bentOf_20

set_option maxHeartbeats 4000000 in
set_option maxRecDepth 100000 in
theorem k_X9_turnedOf (l : Launch) (D : hw_D) (G : Nat → Nat) (h0 : Nat) (p1 : Int32) (sz : Nat) (G0 : G h0 = 7) : Met l yX9_turnedOf wsX9_turnedOf ({ frames := 0, cells := 0, slots := 0, locals := 0 } : Room) (hw_PC D G [.ref h0, .int p1] sz (fun H => True)) (hw_QR (fun v => ∃ (r : Int32), v = .int r)) 0 0 (fun _ => False) := by
  refine hw_met (cc := cX9_turnedOf) (maxL := 2) (ret := (some .int)) (plainFor_of_name (by decide)) rfl (Nat.le_of_ble_eq_true rfl) ?_
  intro p e s m args below meth c QQ ls hsz hx hb hml hr hts hown hlocks hnm hH hK hST hF hQ hl
  subst hsz
  have hS : va_S (hw_AW G [] s.heap.size) s.heap s.heap [] := va_S.rf
  have hl : lv_has ls 2 [(0, .ref h0), (1, .int p1)] := hl
  have u_8 : ∀ w ∈ u_ws RX9 TX9 7, w.before args s = true := fun w hw => hts w ((by decide +kernel : ∀ w ∈ u_ws RX9 TX9 7, w ∈ wsX9_turnedOf) w hw)
  have fg_15_8 : hw_FG s args m 15 8 4 := ⟨RX9, "WardWalkers$Standing", RX9, TX9, 7, u_8, hown, rfl, by decide, (hts (.fieldLink RX9 15 "WardWalkers$Standing" "turned" "[I") (by decide +kernel)), (fun _ h9 => h9)⟩
  refine lv_iload_n hx hb dX9_turnedOf_0 rfl (lv_at hl 1 rfl) ?_
  refine lv_if_lt (tgt := 19) hx hb dX9_turnedOf_1 (by decide) (fun c1 => ?_) (fun c1 => ?_)
  · have b2 : p1.toInt < 0 := hw_ilt c1
    refine lv_iconst (v := 0) hx hb dX9_turnedOf_19 (by decide) ?_
    exact hw_iretR (v := 0) hx hb hr hlocks hQ rfl (⟨0, rfl⟩) dX9_turnedOf_20
  · have b3 : 0 ≤ p1.toInt := hw_inlt c1
    refine lv_iload_n hx hb dX9_turnedOf_4 rfl (lv_at hl 1 rfl) ?_
    refine lv_bipush (v := 7) hx hb dX9_turnedOf_5 (by decide) ?_
    refine lv_icmp_ge (tgt := 19) hx hb dX9_turnedOf_7 (by decide) (fun c4 => ?_) (fun c4 => ?_)
    · have b5 : 7 ≤ p1.toInt := hw_ile c4
      refine lv_iconst (v := 0) hx hb dX9_turnedOf_19 (by decide) ?_
      exact hw_iretR (v := 0) hx hb hr hlocks hQ rfl (⟨0, rfl⟩) dX9_turnedOf_20
    · have b6 : p1.toInt < 7 := hw_inle c4
      refine lv_aload_n hx hb dX9_turnedOf_10 rfl (lv_at hl 0 rfl) ?_
      obtain ⟨r7, td_8, fd_9, os_10, v11, R12⟩ := hH.oS G0
      refine hw_get hx hb fg_15_8 hK v11 rfl dX9_turnedOf_11 ?_
      refine lv_iload_n hx hb dX9_turnedOf_14 rfl (lv_at hl 1 rfl) ?_
      obtain ⟨f13, v14⟩ := hH.a21 (hw_RS_4 R12)
      refine hw_iald hx hb hK v14 (hw_in (by omega) (by omega)) dX9_turnedOf_15 ?_
      refine lv_topi (fun x16 e17 => ?_)
      refine lv_goto (tgt := 20) hx hb dX9_turnedOf_16 (by decide) ?_
      exact hw_iretR (v := x16) hx hb hr hlocks hQ rfl (⟨x16, rfl⟩) dX9_turnedOf_20

set_option maxHeartbeats 4000000 in
set_option maxRecDepth 100000 in
theorem k_X9_placeOf (l : Launch) (D : hw_D) (G : Nat → Nat) (h0 : Nat) (p1 : Int32) (sz : Nat) (G0 : G h0 = 7) : Met l yX9_placeOf wsX9_placeOf ({ frames := 0, cells := 0, slots := 0, locals := 0 } : Room) (hw_PC D G [.ref h0, .int p1] sz (fun H => True)) (hw_QR (fun v => ∃ (r : Int32), v = .int r)) 0 0 (fun _ => False) := by
  refine hw_met (cc := cX9_placeOf) (maxL := 2) (ret := (some .int)) (plainFor_of_name (by decide)) rfl (Nat.le_of_ble_eq_true rfl) ?_
  intro p e s m args below meth c QQ ls hsz hx hb hml hr hts hown hlocks hnm hH hK hST hF hQ hl
  subst hsz
  have hS : va_S (hw_AW G [] s.heap.size) s.heap s.heap [] := va_S.rf
  have hl : lv_has ls 2 [(0, .ref h0), (1, .int p1)] := hl
  have u_8 : ∀ w ∈ u_ws RX9 TX9 7, w.before args s = true := fun w hw => hts w ((by decide +kernel : ∀ w ∈ u_ws RX9 TX9 7, w ∈ wsX9_placeOf) w hw)
  have fg_18_8 : hw_FG s args m 18 8 5 := ⟨RX9, "WardWalkers$Standing", RX9, TX9, 7, u_8, hown, rfl, by decide, (hts (.fieldLink RX9 18 "WardWalkers$Standing" "places" "[I") (by decide +kernel)), (fun _ h9 => h9)⟩
  refine lv_iload_n hx hb dX9_placeOf_0 rfl (lv_at hl 1 rfl) ?_
  refine lv_if_lt (tgt := 18) hx hb dX9_placeOf_1 (by decide) (fun c1 => ?_) (fun c1 => ?_)
  · have b2 : p1.toInt < 0 := hw_ilt c1
    refine lv_iconst (v := 0) hx hb dX9_placeOf_18 (by decide) ?_
    exact hw_iretR (v := 0) hx hb hr hlocks hQ rfl (⟨0, rfl⟩) dX9_placeOf_19
  · have b3 : 0 ≤ p1.toInt := hw_inlt c1
    refine lv_iload_n hx hb dX9_placeOf_4 rfl (lv_at hl 1 rfl) ?_
    refine lv_iconst (v := 3) hx hb dX9_placeOf_5 (by decide) ?_
    refine lv_icmp_ge (tgt := 18) hx hb dX9_placeOf_6 (by decide) (fun c4 => ?_) (fun c4 => ?_)
    · have b5 : 3 ≤ p1.toInt := hw_ile c4
      refine lv_iconst (v := 0) hx hb dX9_placeOf_18 (by decide) ?_
      exact hw_iretR (v := 0) hx hb hr hlocks hQ rfl (⟨0, rfl⟩) dX9_placeOf_19
    · have b6 : p1.toInt < 3 := hw_inle c4
      refine lv_aload_n hx hb dX9_placeOf_9 rfl (lv_at hl 0 rfl) ?_
      obtain ⟨r7, td_8, fd_9, os_10, v11, R12⟩ := hH.oS G0
      refine hw_get hx hb fg_18_8 hK v11 rfl dX9_placeOf_10 ?_
      refine lv_iload_n hx hb dX9_placeOf_13 rfl (lv_at hl 1 rfl) ?_
      obtain ⟨f13, v14⟩ := hH.a22 (hw_RS_5 R12)
      refine hw_iald hx hb hK v14 (hw_in (by omega) (by omega)) dX9_placeOf_14 ?_
      refine lv_topi (fun x16 e17 => ?_)
      refine lv_goto (tgt := 19) hx hb dX9_placeOf_15 (by decide) ?_
      exact hw_iretR (v := x16) hx hb hr hlocks hQ rfl (⟨x16, rfl⟩) dX9_placeOf_19

set_option maxHeartbeats 4000000 in
set_option maxRecDepth 100000 in
theorem k_X9_minuteOf (l : Launch) (D : hw_D) (G : Nat → Nat) (h0 : Nat) (p1 : Int32) (sz : Nat) (G0 : G h0 = 7) : Met l yX9_minuteOf wsX9_minuteOf ({ frames := 0, cells := 0, slots := 0, locals := 0 } : Room) (hw_PC D G [.ref h0, .int p1] sz (fun H => True)) (hw_QR (fun v => ∃ (r : Int32), v = .int r)) 0 0 (fun _ => False) := by
  refine hw_met (cc := cX9_minuteOf) (maxL := 2) (ret := (some .int)) (plainFor_of_name (by decide)) rfl (Nat.le_of_ble_eq_true rfl) ?_
  intro p e s m args below meth c QQ ls hsz hx hb hml hr hts hown hlocks hnm hH hK hST hF hQ hl
  subst hsz
  have hS : va_S (hw_AW G [] s.heap.size) s.heap s.heap [] := va_S.rf
  have hl : lv_has ls 2 [(0, .ref h0), (1, .int p1)] := hl
  have u_8 : ∀ w ∈ u_ws RX9 TX9 7, w.before args s = true := fun w hw => hts w ((by decide +kernel : ∀ w ∈ u_ws RX9 TX9 7, w ∈ wsX9_minuteOf) w hw)
  have fg_21_8 : hw_FG s args m 21 8 6 := ⟨RX9, "WardWalkers$Standing", RX9, TX9, 7, u_8, hown, rfl, by decide, (hts (.fieldLink RX9 21 "WardWalkers$Standing" "minutes" "[I") (by decide +kernel)), (fun _ h9 => h9)⟩
  refine lv_iload_n hx hb dX9_minuteOf_0 rfl (lv_at hl 1 rfl) ?_
  refine lv_if_lt (tgt := 18) hx hb dX9_minuteOf_1 (by decide) (fun c1 => ?_) (fun c1 => ?_)
  · have b2 : p1.toInt < 0 := hw_ilt c1
    refine lv_iconst (v := 0) hx hb dX9_minuteOf_18 (by decide) ?_
    exact hw_iretR (v := 0) hx hb hr hlocks hQ rfl (⟨0, rfl⟩) dX9_minuteOf_19
  · have b3 : 0 ≤ p1.toInt := hw_inlt c1
    refine lv_iload_n hx hb dX9_minuteOf_4 rfl (lv_at hl 1 rfl) ?_
    refine lv_iconst (v := 3) hx hb dX9_minuteOf_5 (by decide) ?_
    refine lv_icmp_ge (tgt := 18) hx hb dX9_minuteOf_6 (by decide) (fun c4 => ?_) (fun c4 => ?_)
    · have b5 : 3 ≤ p1.toInt := hw_ile c4
      refine lv_iconst (v := 0) hx hb dX9_minuteOf_18 (by decide) ?_
      exact hw_iretR (v := 0) hx hb hr hlocks hQ rfl (⟨0, rfl⟩) dX9_minuteOf_19
    · have b6 : p1.toInt < 3 := hw_inle c4
      refine lv_aload_n hx hb dX9_minuteOf_9 rfl (lv_at hl 0 rfl) ?_
      obtain ⟨r7, td_8, fd_9, os_10, v11, R12⟩ := hH.oS G0
      refine hw_get hx hb fg_21_8 hK v11 rfl dX9_minuteOf_10 ?_
      refine lv_iload_n hx hb dX9_minuteOf_13 rfl (lv_at hl 1 rfl) ?_
      obtain ⟨f13, v14⟩ := hH.a23 (hw_RS_6 R12)
      refine hw_iald hx hb hK v14 (hw_in (by omega) (by omega)) dX9_minuteOf_14 ?_
      refine lv_topi (fun x16 e17 => ?_)
      refine lv_goto (tgt := 19) hx hb dX9_minuteOf_15 (by decide) ?_
      exact hw_iretR (v := x16) hx hb hr hlocks hQ rfl (⟨x16, rfl⟩) dX9_minuteOf_19

set_option maxHeartbeats 4000000 in
set_option maxRecDepth 100000 in
theorem k_X9_isOpen (l : Launch) (D : hw_D) (G : Nat → Nat) (h0 : Nat) (p1 : Int32) (sz : Nat) (G0 : G h0 = 7) : Met l yX9_isOpen wsX9_isOpen ({ frames := 0, cells := 0, slots := 0, locals := 0 } : Room) (hw_PC D G [.ref h0, .int p1] sz (fun H => True)) (hw_QR (fun v => (v = .int 1) ∨ (v = .int 0))) 0 0 (fun _ => False) := by
  refine hw_met (cc := cX9_isOpen) (maxL := 2) (ret := (some .boolean)) (plainFor_of_name (by decide)) rfl (Nat.le_of_ble_eq_true rfl) ?_
  intro p e s m args below meth c QQ ls hsz hx hb hml hr hts hown hlocks hnm hH hK hST hF hQ hl
  subst hsz
  have hS : va_S (hw_AW G [] s.heap.size) s.heap s.heap [] := va_S.rf
  have hl : lv_has ls 2 [(0, .ref h0), (1, .int p1)] := hl
  have u_8 : ∀ w ∈ u_ws RX9 TX9 7, w.before args s = true := fun w hw => hts w ((by decide +kernel : ∀ w ∈ u_ws RX9 TX9 7, w ∈ wsX9_isOpen) w hw)
  have fg_31_8 : hw_FG s args m 31 8 2 := ⟨RX9, "WardWalkers$Standing", RX9, TX9, 7, u_8, hown, rfl, by decide, (hts (.fieldLink RX9 31 "WardWalkers$Standing" "openSet" "I") (by decide +kernel)), (fun _ h9 => h9)⟩
  refine lv_aload_n hx hb dX9_isOpen_0 rfl (lv_at hl 0 rfl) ?_
  obtain ⟨r1, td_2, fd_3, os_4, v5, R6⟩ := hH.oS G0
  refine hw_get hx hb fg_31_8 hK v5 rfl dX9_isOpen_1 ?_
  refine lv_iload_n hx hb dX9_isOpen_4 rfl (lv_at hl 1 rfl) ?_
  refine lv_ishr hx hb dX9_isOpen_5 ?_
  refine lv_topi (fun x7 e8 => ?_)
  refine lv_iconst (v := 1) hx hb dX9_isOpen_6 (by decide) ?_
  refine lv_iand hx hb dX9_isOpen_7 ?_
  refine lv_topi (fun x9 e10 => ?_)
  have t11 : 0 ≤ x9.toInt ∧ x9.toInt ≤ 1 := by rw [e10]; exact hw_and (by first | decide | omega)
  refine lv_iconst (v := 1) hx hb dX9_isOpen_8 (by decide) ?_
  refine lv_icmp_ne (tgt := 16) hx hb dX9_isOpen_9 (by decide) (fun c12 => ?_) (fun c12 => ?_)
  · have b13 : x9.toInt ≠ 1 := hw_ine c12
    refine lv_iconst (v := 0) hx hb dX9_isOpen_16 (by decide) ?_
    exact hw_iretR (v := 0) hx hb hr hlocks hQ rfl (Or.inr (rfl)) dX9_isOpen_17
  · have b14 : x9.toInt = 1 := hw_ieq c12
    refine lv_iconst (v := 1) hx hb dX9_isOpen_12 (by decide) ?_
    refine lv_goto (tgt := 17) hx hb dX9_isOpen_13 (by decide) ?_
    exact hw_iretR (v := 1) hx hb hr hlocks hQ rfl (Or.inl rfl) dX9_isOpen_17

set_option maxHeartbeats 4000000 in
set_option maxRecDepth 100000 in
theorem k_X9_stand (l : Launch) (D : hw_D) (G : Nat → Nat) (h0 : Nat) (p1 : Int32) (p2 : Int32) (p3 : Int32) (sz : Nat) (G0 : G h0 = 7) : Met l yX9_stand wsX9_stand ({ frames := 0, cells := 0, slots := 0, locals := 0 } : Room) (hw_PC D G [.ref h0, .int p1, .int p2, .int p3] sz (fun H => True)) (hw_QM (fun v H => v = none ∧ hw_HT D G H) (hw_AW G [22, 23] sz)) 0 0 (hw_AW G [22, 23] sz) := by
  refine hw_met (cc := cX9_stand) (maxL := 4) (ret := none) (plainFor_of_name (by decide)) rfl (Nat.le_of_ble_eq_true rfl) ?_
  intro p e s m args below meth c QQ ls hsz hx hb hml hr hts hown hlocks hnm hH hK hST hF hQ hl
  subst hsz
  have hS : va_S (hw_AW G [22, 23] s.heap.size) s.heap s.heap [] := va_S.rf
  have hl : lv_has ls 4 [(0, .ref h0), (1, .int p1), (2, .int p2), (3, .int p3)] := hl
  have u_8 : ∀ w ∈ u_ws RX9 TX9 7, w.before args s = true := fun w hw => hts w ((by decide +kernel : ∀ w ∈ u_ws RX9 TX9 7, w ∈ wsX9_stand) w hw)
  have fg_18_8 : hw_FG s args m 18 8 5 := ⟨RX9, "WardWalkers$Standing", RX9, TX9, 7, u_8, hown, rfl, by decide, (hts (.fieldLink RX9 18 "WardWalkers$Standing" "places" "[I") (by decide +kernel)), (fun _ h9 => h9)⟩
  have fg_21_8 : hw_FG s args m 21 8 6 := ⟨RX9, "WardWalkers$Standing", RX9, TX9, 7, u_8, hown, rfl, by decide, (hts (.fieldLink RX9 21 "WardWalkers$Standing" "minutes" "[I") (by decide +kernel)), (fun _ h9 => h9)⟩
  refine lv_iload_n hx hb dX9_stand_0 rfl (lv_at hl 1 rfl) ?_
  refine lv_if_lt (tgt := 23) hx hb dX9_stand_1 (by decide) (fun c1 => ?_) (fun c1 => ?_)
  · have b2 : p1.toInt < 0 := hw_ilt c1
    exact hw_vretM hx hb hr hlocks hQ hS (⟨rfl, hH⟩) dX9_stand_23
  · have b3 : 0 ≤ p1.toInt := hw_inlt c1
    refine lv_iload_n hx hb dX9_stand_4 rfl (lv_at hl 1 rfl) ?_
    refine lv_iconst (v := 3) hx hb dX9_stand_5 (by decide) ?_
    refine lv_icmp_ge (tgt := 23) hx hb dX9_stand_6 (by decide) (fun c4 => ?_) (fun c4 => ?_)
    · have b5 : 3 ≤ p1.toInt := hw_ile c4
      exact hw_vretM hx hb hr hlocks hQ hS (⟨rfl, hH⟩) dX9_stand_23
    · have b6 : p1.toInt < 3 := hw_inle c4
      refine lv_aload_n hx hb dX9_stand_9 rfl (lv_at hl 0 rfl) ?_
      obtain ⟨r7, td_8, fd_9, os_10, v11, R12⟩ := hH.oS G0
      refine hw_get hx hb fg_18_8 hK v11 rfl dX9_stand_10 ?_
      refine lv_iload_n hx hb dX9_stand_13 rfl (lv_at hl 1 rfl) ?_
      refine lv_iload_n hx hb dX9_stand_14 rfl (lv_at hl 2 rfl) ?_
      obtain ⟨f13, v14⟩ := hH.a22 (hw_RS_5 R12)
      refine hw_iast hx hb hK hH v14 (hw_in (by omega) (by omega)) (fun _ => by rw [(hw_RS_5 R12)]; exact ⟨_, rfl⟩) hS (hw_AWi (hw_RS_5 R12) (by decide)) dX9_stand_15 (fun H locs hH v14 oq hz hS => ?_)
      have v11 := va_at.kept v11 (oq _ (hw_ne G0 (hw_RS_5 R12) (by decide)))
      refine lv_aload_n hx hb dX9_stand_16 rfl (lv_at hl 0 rfl) ?_
      refine hw_get hx hb fg_21_8 hK v11 rfl dX9_stand_17 ?_
      refine lv_iload_n hx hb dX9_stand_20 rfl (lv_at hl 1 rfl) ?_
      refine lv_iload_n hx hb dX9_stand_21 rfl (lv_at hl 3 rfl) ?_
      obtain ⟨f16, v17⟩ := hH.a23 (hw_RS_6 R12)
      refine hw_iast hx hb hK hH v17 (hw_in (by omega) (by omega)) (fun _ => by rw [(hw_RS_6 R12)]; exact ⟨_, rfl⟩) hS (hw_AWi (hw_RS_6 R12) (by decide)) dX9_stand_22 (fun H locs hH v17 oq hz hS => ?_)
      have v11 := va_at.kept v11 (oq _ (hw_ne G0 (hw_RS_6 R12) (by decide)))
      exact hw_vretM hx hb hr hlocks hQ hS (⟨rfl, hH⟩) dX9_stand_23

set_option maxHeartbeats 4000000 in
set_option maxRecDepth 100000 in
theorem k_X9_turn (l : Launch) (D : hw_D) (G : Nat → Nat) (h0 : Nat) (p1 : Int32) (sz : Nat) (G0 : G h0 = 7) : Met l yX9_turn wsX9_turn ({ frames := 0, cells := 0, slots := 0, locals := 0 } : Room) (hw_PC D G [.ref h0, .int p1] sz (fun H => True)) (hw_QM (fun v H => v = none ∧ hw_HT D G H) (hw_AW G [21] sz)) 0 0 (hw_AW G [21] sz) := by
  refine hw_met (cc := cX9_turn) (maxL := 2) (ret := none) (plainFor_of_name (by decide)) rfl (Nat.le_of_ble_eq_true rfl) ?_
  intro p e s m args below meth c QQ ls hsz hx hb hml hr hts hown hlocks hnm hH hK hST hF hQ hl
  subst hsz
  have hS : va_S (hw_AW G [21] s.heap.size) s.heap s.heap [] := va_S.rf
  have hl : lv_has ls 2 [(0, .ref h0), (1, .int p1)] := hl
  have u_8 : ∀ w ∈ u_ws RX9 TX9 7, w.before args s = true := fun w hw => hts w ((by decide +kernel : ∀ w ∈ u_ws RX9 TX9 7, w ∈ wsX9_turn) w hw)
  have fg_15_8 : hw_FG s args m 15 8 4 := ⟨RX9, "WardWalkers$Standing", RX9, TX9, 7, u_8, hown, rfl, by decide, (hts (.fieldLink RX9 15 "WardWalkers$Standing" "turned" "[I") (by decide +kernel)), (fun _ h9 => h9)⟩
  refine lv_iload_n hx hb dX9_turn_0 rfl (lv_at hl 1 rfl) ?_
  refine lv_if_lt (tgt := 20) hx hb dX9_turn_1 (by decide) (fun c1 => ?_) (fun c1 => ?_)
  · have b2 : p1.toInt < 0 := hw_ilt c1
    exact hw_vretM hx hb hr hlocks hQ hS (⟨rfl, hH⟩) dX9_turn_20
  · have b3 : 0 ≤ p1.toInt := hw_inlt c1
    refine lv_iload_n hx hb dX9_turn_4 rfl (lv_at hl 1 rfl) ?_
    refine lv_bipush (v := 7) hx hb dX9_turn_5 (by decide) ?_
    refine lv_icmp_ge (tgt := 20) hx hb dX9_turn_7 (by decide) (fun c4 => ?_) (fun c4 => ?_)
    · have b5 : 7 ≤ p1.toInt := hw_ile c4
      exact hw_vretM hx hb hr hlocks hQ hS (⟨rfl, hH⟩) dX9_turn_20
    · have b6 : p1.toInt < 7 := hw_inle c4
      refine lv_aload_n hx hb dX9_turn_10 rfl (lv_at hl 0 rfl) ?_
      obtain ⟨r7, td_8, fd_9, os_10, v11, R12⟩ := hH.oS G0
      refine hw_get hx hb fg_15_8 hK v11 rfl dX9_turn_11 ?_
      refine lv_iload_n hx hb dX9_turn_14 rfl (lv_at hl 1 rfl) ?_
      refine lv_dup2_11 hx hb dX9_turn_15 rfl rfl ?_
      obtain ⟨f13, v14⟩ := hH.a21 (hw_RS_4 R12)
      refine hw_iald hx hb hK v14 (hw_in (by omega) (by omega)) dX9_turn_16 ?_
      refine lv_topi (fun x16 e17 => ?_)
      refine lv_iconst (v := 1) hx hb dX9_turn_17 (by decide) ?_
      refine lv_iadd hx hb dX9_turn_18 ?_
      refine lv_topi (fun x18 e19 => ?_)
      obtain ⟨f20, v21⟩ := hH.a21 (hw_RS_4 R12)
      refine hw_iast hx hb hK hH v21 (hw_in (by omega) (by omega)) (fun _ => by rw [(hw_RS_4 R12)]; exact ⟨_, rfl⟩) hS (hw_AWi (hw_RS_4 R12) (by decide)) dX9_turn_19 (fun H locs hH v21 oq hz hS => ?_)
      have v11 := va_at.kept v11 (oq _ (hw_ne G0 (hw_RS_4 R12) (by decide)))
      exact hw_vretM hx hb hr hlocks hQ hS (⟨rfl, hH⟩) dX9_turn_20

set_option maxHeartbeats 4000000 in
set_option maxRecDepth 100000 in
theorem k_X9_bend (l : Launch) (D : hw_D) (G : Nat → Nat) (h0 : Nat) (p1 : Int32) (sz : Nat) (G0 : G h0 = 7) : Met l yX9_bend wsX9_bend ({ frames := 0, cells := 0, slots := 0, locals := 0 } : Room) (hw_PC D G [.ref h0, .int p1] sz (fun H => True)) (hw_QM (fun v H => v = none ∧ hw_HT D G H) (hw_AW G [20] sz)) 0 0 (hw_AW G [20] sz) := by
  refine hw_met (cc := cX9_bend) (maxL := 2) (ret := none) (plainFor_of_name (by decide)) rfl (Nat.le_of_ble_eq_true rfl) ?_
  intro p e s m args below meth c QQ ls hsz hx hb hml hr hts hown hlocks hnm hH hK hST hF hQ hl
  subst hsz
  have hS : va_S (hw_AW G [20] s.heap.size) s.heap s.heap [] := va_S.rf
  have hl : lv_has ls 2 [(0, .ref h0), (1, .int p1)] := hl
  have u_8 : ∀ w ∈ u_ws RX9 TX9 7, w.before args s = true := fun w hw => hts w ((by decide +kernel : ∀ w ∈ u_ws RX9 TX9 7, w ∈ wsX9_bend) w hw)
  have fg_9_8 : hw_FG s args m 9 8 3 := ⟨RX9, "WardWalkers$Standing", RX9, TX9, 7, u_8, hown, rfl, by decide, (hts (.fieldLink RX9 9 "WardWalkers$Standing" "bent" "[I") (by decide +kernel)), (fun _ h9 => h9)⟩
  refine lv_iload_n hx hb dX9_bend_0 rfl (lv_at hl 1 rfl) ?_
  refine lv_if_lt (tgt := 27) hx hb dX9_bend_1 (by decide) (fun c1 => ?_) (fun c1 => ?_)
  · have b2 : p1.toInt < 0 := hw_ilt c1
    exact hw_vretM hx hb hr hlocks hQ hS (⟨rfl, hH⟩) dX9_bend_27
  · have b3 : 0 ≤ p1.toInt := hw_inlt c1
    refine lv_iload_n hx hb dX9_bend_4 rfl (lv_at hl 1 rfl) ?_
    refine lv_bipush (v := 7) hx hb dX9_bend_5 (by decide) ?_
    refine lv_icmp_ge (tgt := 27) hx hb dX9_bend_7 (by decide) (fun c4 => ?_) (fun c4 => ?_)
    · have b5 : 7 ≤ p1.toInt := hw_ile c4
      exact hw_vretM hx hb hr hlocks hQ hS (⟨rfl, hH⟩) dX9_bend_27
    · have b6 : p1.toInt < 7 := hw_inle c4
      refine lv_aload_n hx hb dX9_bend_10 rfl (lv_at hl 0 rfl) ?_
      obtain ⟨r7, td_8, fd_9, os_10, v11, R12⟩ := hH.oS G0
      refine hw_get hx hb fg_9_8 hK v11 rfl dX9_bend_11 ?_
      refine lv_iload_n hx hb dX9_bend_14 rfl (lv_at hl 1 rfl) ?_
      refine lv_aload_n hx hb dX9_bend_15 rfl (lv_at hl 0 rfl) ?_
      refine hw_get hx hb fg_9_8 hK v11 rfl dX9_bend_16 ?_
      refine lv_iload_n hx hb dX9_bend_19 rfl (lv_at hl 1 rfl) ?_
      obtain ⟨f13, v14⟩ := hH.a20 (hw_RS_3 R12)
      refine hw_iald hx hb hK v14 (hw_in (by omega) (by omega)) dX9_bend_20 ?_
      refine lv_topi (fun x16 e17 => ?_)
      refine lv_iconst (v := 1) hx hb dX9_bend_21 (by decide) ?_
      refine lv_iadd hx hb dX9_bend_22 ?_
      refine lv_topi (fun x18 e19 => ?_)
      refine lv_bipush (v := 9) hx hb dX9_bend_23 (by decide) ?_
      refine lv_irem hx hb dX9_bend_25 (by decide) ?_
      refine lv_topi (fun x20 e21 => ?_)
      have t22 : (-9 < x20.toInt ∧ x20.toInt < 9) ∧ (0 ≤ x18.toInt → 0 ≤ x20.toInt) ∧ (x18.toInt ≤ 0 → x20.toInt ≤ 0) := by rw [e21]; exact hw_rem (by decide)
      obtain ⟨f23, v24⟩ := hH.a20 (hw_RS_3 R12)
      refine hw_iast hx hb hK hH v24 (hw_in (by omega) (by omega)) (fun _ => by rw [(hw_RS_3 R12)]; exact ⟨_, rfl⟩) hS (hw_AWi (hw_RS_3 R12) (by decide)) dX9_bend_26 (fun H locs hH v24 oq hz hS => ?_)
      have v11 := va_at.kept v11 (oq _ (hw_ne G0 (hw_RS_3 R12) (by decide)))
      exact hw_vretM hx hb hr hlocks hQ hS (⟨rfl, hH⟩) dX9_bend_27

set_option maxHeartbeats 4000000 in
set_option maxRecDepth 100000 in
theorem k_X9_restore (l : Launch) (D : hw_D) (G : Nat → Nat) (h0 : Nat) (p1 : Int32) (sz : Nat) (G0 : G h0 = 7) : Met l yX9_restore wsX9_restore ({ frames := 0, cells := 0, slots := 0, locals := 0 } : Room) (hw_PC D G [.ref h0, .int p1] sz (fun H => True)) (hw_QM (fun v H => v = none ∧ hw_HT D G H) (hw_AW G [20, 21] sz)) 0 0 (hw_AW G [20, 21] sz) := by
  refine hw_met (cc := cX9_restore) (maxL := 2) (ret := none) (plainFor_of_name (by decide)) rfl (Nat.le_of_ble_eq_true rfl) ?_
  intro p e s m args below meth c QQ ls hsz hx hb hml hr hts hown hlocks hnm hH hK hST hF hQ hl
  subst hsz
  have hS : va_S (hw_AW G [20, 21] s.heap.size) s.heap s.heap [] := va_S.rf
  have hl : lv_has ls 2 [(0, .ref h0), (1, .int p1)] := hl
  have u_8 : ∀ w ∈ u_ws RX9 TX9 7, w.before args s = true := fun w hw => hts w ((by decide +kernel : ∀ w ∈ u_ws RX9 TX9 7, w ∈ wsX9_restore) w hw)
  have fg_9_8 : hw_FG s args m 9 8 3 := ⟨RX9, "WardWalkers$Standing", RX9, TX9, 7, u_8, hown, rfl, by decide, (hts (.fieldLink RX9 9 "WardWalkers$Standing" "bent" "[I") (by decide +kernel)), (fun _ h9 => h9)⟩
  have fg_15_8 : hw_FG s args m 15 8 4 := ⟨RX9, "WardWalkers$Standing", RX9, TX9, 7, u_8, hown, rfl, by decide, (hts (.fieldLink RX9 15 "WardWalkers$Standing" "turned" "[I") (by decide +kernel)), (fun _ h9 => h9)⟩
  refine lv_iload_n hx hb dX9_restore_0 rfl (lv_at hl 1 rfl) ?_
  refine lv_if_lt (tgt := 24) hx hb dX9_restore_1 (by decide) (fun c1 => ?_) (fun c1 => ?_)
  · have b2 : p1.toInt < 0 := hw_ilt c1
    exact hw_vretM hx hb hr hlocks hQ hS (⟨rfl, hH⟩) dX9_restore_24
  · have b3 : 0 ≤ p1.toInt := hw_inlt c1
    refine lv_iload_n hx hb dX9_restore_4 rfl (lv_at hl 1 rfl) ?_
    refine lv_bipush (v := 7) hx hb dX9_restore_5 (by decide) ?_
    refine lv_icmp_ge (tgt := 24) hx hb dX9_restore_7 (by decide) (fun c4 => ?_) (fun c4 => ?_)
    · have b5 : 7 ≤ p1.toInt := hw_ile c4
      exact hw_vretM hx hb hr hlocks hQ hS (⟨rfl, hH⟩) dX9_restore_24
    · have b6 : p1.toInt < 7 := hw_inle c4
      refine lv_aload_n hx hb dX9_restore_10 rfl (lv_at hl 0 rfl) ?_
      obtain ⟨r7, td_8, fd_9, os_10, v11, R12⟩ := hH.oS G0
      refine hw_get hx hb fg_9_8 hK v11 rfl dX9_restore_11 ?_
      refine lv_iload_n hx hb dX9_restore_14 rfl (lv_at hl 1 rfl) ?_
      refine lv_iconst (v := 0) hx hb dX9_restore_15 (by decide) ?_
      obtain ⟨f13, v14⟩ := hH.a20 (hw_RS_3 R12)
      refine hw_iast hx hb hK hH v14 (hw_in (by omega) (by omega)) (fun _ => by rw [(hw_RS_3 R12)]; exact ⟨_, rfl⟩) hS (hw_AWi (hw_RS_3 R12) (by decide)) dX9_restore_16 (fun H locs hH v14 oq hz hS => ?_)
      have v11 := va_at.kept v11 (oq _ (hw_ne G0 (hw_RS_3 R12) (by decide)))
      refine lv_aload_n hx hb dX9_restore_17 rfl (lv_at hl 0 rfl) ?_
      refine hw_get hx hb fg_15_8 hK v11 rfl dX9_restore_18 ?_
      refine lv_iload_n hx hb dX9_restore_21 rfl (lv_at hl 1 rfl) ?_
      refine lv_iconst (v := 0) hx hb dX9_restore_22 (by decide) ?_
      obtain ⟨f16, v17⟩ := hH.a21 (hw_RS_4 R12)
      refine hw_iast hx hb hK hH v17 (hw_in (by omega) (by omega)) (fun _ => by rw [(hw_RS_4 R12)]; exact ⟨_, rfl⟩) hS (hw_AWi (hw_RS_4 R12) (by decide)) dX9_restore_23 (fun H locs hH v17 oq hz hS => ?_)
      have v11 := va_at.kept v11 (oq _ (hw_ne G0 (hw_RS_4 R12) (by decide)))
      exact hw_vretM hx hb hr hlocks hQ hS (⟨rfl, hH⟩) dX9_restore_24

set_option maxHeartbeats 4000000 in
set_option maxRecDepth 100000 in
theorem k_X9_open (l : Launch) (D : hw_D) (G : Nat → Nat) (h0 : Nat) (p1 : Int32) (p2 : Int32) (sz : Nat) (G0 : G h0 = 7) : Met l yX9_open wsX9_open ({ frames := 0, cells := 0, slots := 0, locals := 0 } : Room) (hw_PC D G [.ref h0, .int p1, .int p2] sz (fun H => True)) (hw_QM (fun v H => v = none ∧ hw_HT D G H) (hw_AW G [7] sz)) 0 0 (hw_AW G [7] sz) := by
  refine hw_met (cc := cX9_open) (maxL := 3) (ret := none) (plainFor_of_name (by decide)) rfl (Nat.le_of_ble_eq_true rfl) ?_
  intro p e s m args below meth c QQ ls hsz hx hb hml hr hts hown hlocks hnm hH hK hST hF hQ hl
  subst hsz
  have hS : va_S (hw_AW G [7] s.heap.size) s.heap s.heap [] := va_S.rf
  have hl : lv_has ls 3 [(0, .ref h0), (1, .int p1), (2, .int p2)] := hl
  have u_8 : ∀ w ∈ u_ws RX9 TX9 7, w.before args s = true := fun w hw => hts w ((by decide +kernel : ∀ w ∈ u_ws RX9 TX9 7, w ∈ wsX9_open) w hw)
  have fg_31_8 : hw_FG s args m 31 8 2 := ⟨RX9, "WardWalkers$Standing", RX9, TX9, 7, u_8, hown, rfl, by decide, (hts (.fieldLink RX9 31 "WardWalkers$Standing" "openSet" "I") (by decide +kernel)), (fun _ h9 => h9)⟩
  have fp_31_8 : hw_FP s args m 31 8 2 false .int := ⟨RX9, "WardWalkers$Standing", RX9, TX9, 7, tyX9, u_8, hown, rfl, by decide, (hts (.fieldLink RX9 31 "WardWalkers$Standing" "openSet" "I") (by decide +kernel)), (fun _ h9 => h9), tyX9_ok, nmX9, rfl, (fun h => by cases h), by decide +kernel⟩
  have fg_28_8 : hw_FG s args m 28 8 1 := ⟨RX9, "WardWalkers$Standing", RX9, TX9, 7, u_8, hown, rfl, by decide, (hts (.fieldLink RX9 28 "WardWalkers$Standing" "found" "I") (by decide +kernel)), (fun _ h9 => h9)⟩
  have fp_28_8 : hw_FP s args m 28 8 1 false .int := ⟨RX9, "WardWalkers$Standing", RX9, TX9, 7, tyX9, u_8, hown, rfl, by decide, (hts (.fieldLink RX9 28 "WardWalkers$Standing" "found" "I") (by decide +kernel)), (fun _ h9 => h9), tyX9_ok, nmX9, rfl, (fun h => by cases h), by decide +kernel⟩
  refine lv_aload_n hx hb dX9_open_0 rfl (lv_at hl 0 rfl) ?_
  refine lv_dup hx hb dX9_open_1 rfl ?_
  obtain ⟨r1, td_2, fd_3, os_4, v5, R6⟩ := hH.oS G0
  refine hw_get hx hb fg_31_8 hK v5 rfl dX9_open_2 ?_
  refine lv_iconst (v := 1) hx hb dX9_open_5 (by decide) ?_
  refine lv_iload_n hx hb dX9_open_6 rfl (lv_at hl 1 rfl) ?_
  refine lv_ishl hx hb dX9_open_7 ?_
  refine lv_topi (fun x7 e8 => ?_)
  refine lv_ior hx hb dX9_open_8 ?_
  refine lv_topi (fun x9 e10 => ?_)
  refine hw_put (v := .int x9) (fs' := hw_LS r1 td_2 fd_3 x9) hx hb fp_31_8 hK hH v5 (Nat.le_of_ble_eq_true rfl) rfl rfl rfl (fun _ => by rw [G0]; exact ⟨r1, td_2, fd_3, x9, rfl, R6⟩) hS (hw_AWi G0 (by decide)) dX9_open_9 (fun H locs hH v5 oq hz hS => ?_)
  refine lv_aload_n hx hb dX9_open_12 rfl (lv_at hl 0 rfl) ?_
  refine lv_dup hx hb dX9_open_13 rfl ?_
  refine hw_get hx hb fg_28_8 hK v5 rfl dX9_open_14 ?_
  refine lv_iload_n hx hb dX9_open_17 rfl (lv_at hl 2 rfl) ?_
  refine lv_iadd hx hb dX9_open_18 ?_
  refine lv_topi (fun x11 e12 => ?_)
  refine hw_put (v := .int x11) (fs' := hw_LS r1 td_2 x11 x9) hx hb fp_28_8 hK hH v5 (Nat.le_of_ble_eq_true rfl) rfl rfl rfl (fun _ => by rw [G0]; exact ⟨r1, td_2, x11, x9, rfl, R6⟩) hS (hw_AWi G0 (by decide)) dX9_open_19 (fun H locs hH v5 oq hz hS => ?_)
  exact hw_vretM hx hb hr hlocks hQ hS (⟨rfl, hH⟩) dX9_open_22

set_option maxHeartbeats 4000000 in
set_option maxRecDepth 100000 in
theorem k_X9_close (l : Launch) (D : hw_D) (G : Nat → Nat) (h0 : Nat) (p1 : Int32) (sz : Nat) (G0 : G h0 = 7) : Met l yX9_close wsX9_close ({ frames := 0, cells := 0, slots := 0, locals := 0 } : Room) (hw_PC D G [.ref h0, .int p1] sz (fun H => True)) (hw_QM (fun v H => v = none ∧ hw_HT D G H) (hw_AW G [7] sz)) 0 0 (hw_AW G [7] sz) := by
  refine hw_met (cc := cX9_close) (maxL := 2) (ret := none) (plainFor_of_name (by decide)) rfl (Nat.le_of_ble_eq_true rfl) ?_
  intro p e s m args below meth c QQ ls hsz hx hb hml hr hts hown hlocks hnm hH hK hST hF hQ hl
  subst hsz
  have hS : va_S (hw_AW G [7] s.heap.size) s.heap s.heap [] := va_S.rf
  have hl : lv_has ls 2 [(0, .ref h0), (1, .int p1)] := hl
  have u_8 : ∀ w ∈ u_ws RX9 TX9 7, w.before args s = true := fun w hw => hts w ((by decide +kernel : ∀ w ∈ u_ws RX9 TX9 7, w ∈ wsX9_close) w hw)
  have fg_31_8 : hw_FG s args m 31 8 2 := ⟨RX9, "WardWalkers$Standing", RX9, TX9, 7, u_8, hown, rfl, by decide, (hts (.fieldLink RX9 31 "WardWalkers$Standing" "openSet" "I") (by decide +kernel)), (fun _ h9 => h9)⟩
  have fp_31_8 : hw_FP s args m 31 8 2 false .int := ⟨RX9, "WardWalkers$Standing", RX9, TX9, 7, tyX9, u_8, hown, rfl, by decide, (hts (.fieldLink RX9 31 "WardWalkers$Standing" "openSet" "I") (by decide +kernel)), (fun _ h9 => h9), tyX9_ok, nmX9, rfl, (fun h => by cases h), by decide +kernel⟩
  refine lv_aload_n hx hb dX9_close_0 rfl (lv_at hl 0 rfl) ?_
  refine lv_dup hx hb dX9_close_1 rfl ?_
  obtain ⟨r1, td_2, fd_3, os_4, v5, R6⟩ := hH.oS G0
  refine hw_get hx hb fg_31_8 hK v5 rfl dX9_close_2 ?_
  refine lv_iconst (v := 1) hx hb dX9_close_5 (by decide) ?_
  refine lv_iload_n hx hb dX9_close_6 rfl (lv_at hl 1 rfl) ?_
  refine lv_ishl hx hb dX9_close_7 ?_
  refine lv_topi (fun x7 e8 => ?_)
  refine lv_iconst (v := (-1)) hx hb dX9_close_8 (by decide) ?_
  refine lv_ixor hx hb dX9_close_9 ?_
  refine lv_topi (fun x9 e10 => ?_)
  refine lv_iand hx hb dX9_close_10 ?_
  refine lv_topi (fun x11 e12 => ?_)
  refine hw_put (v := .int x11) (fs' := hw_LS r1 td_2 fd_3 x11) hx hb fp_31_8 hK hH v5 (Nat.le_of_ble_eq_true rfl) rfl rfl rfl (fun _ => by rw [G0]; exact ⟨r1, td_2, fd_3, x11, rfl, R6⟩) hS (hw_AWi G0 (by decide)) dX9_close_11 (fun H locs hH v5 oq hz hS => ?_)
  exact hw_vretM hx hb hr hlocks hQ hS (⟨rfl, hH⟩) dX9_close_14

set_option maxHeartbeats 4000000 in
set_option maxRecDepth 100000 in
theorem k_X9_nextDay (l : Launch) (D : hw_D) (G : Nat → Nat) (h0 : Nat) (sz : Nat) (ra : Nat → Nat) (td_a fd_a os_a : Int32) (G0 : G h0 = 7) (Ra : hw_RS G ra) : Met l yX9_nextDay wsX9_nextDay ({ frames := 0, cells := 0, slots := 0, locals := 0 } : Room) (hw_PC D G [.ref h0] sz (fun H => va_at D.1 vwCl (h0, .inr (8, hw_LS ra td_a fd_a os_a)) H)) (hw_QM (fun v H => ∃ (td_a2 : Int32), v = none ∧ hw_HT D G H ∧ va_at D.1 vwCl (h0, .inr (8, hw_LS ra td_a2 fd_a os_a)) H ∧ (td_a.toInt < 2147483647 → td_a2.toInt = td_a.toInt + 1)) (hw_AW G [7, 23] sz)) 0 0 (hw_AW G [7, 23] sz) := by
  refine hw_met (cc := cX9_nextDay) (maxL := 2) (ret := none) (plainFor_of_name (by decide)) rfl (Nat.le_of_ble_eq_true rfl) ?_
  intro p e s m args below meth c QQ ls hsz hx hb hml hr hts hown hlocks hnm hH hK hST hF hQ hl
  subst hsz
  have hS : va_S (hw_AW G [7, 23] s.heap.size) s.heap s.heap [] := va_S.rf
  have va := hF
  have hl : lv_has ls 2 [(0, .ref h0)] := hl
  have u_8 : ∀ w ∈ u_ws RX9 TX9 7, w.before args s = true := fun w hw => hts w ((by decide +kernel : ∀ w ∈ u_ws RX9 TX9 7, w ∈ wsX9_nextDay) w hw)
  have fg_24_8 : hw_FG s args m 24 8 0 := ⟨RX9, "WardWalkers$Standing", RX9, TX9, 7, u_8, hown, rfl, by decide, (hts (.fieldLink RX9 24 "WardWalkers$Standing" "today" "I") (by decide +kernel)), (fun _ h9 => h9)⟩
  have fp_24_8 : hw_FP s args m 24 8 0 false .int := ⟨RX9, "WardWalkers$Standing", RX9, TX9, 7, tyX9, u_8, hown, rfl, by decide, (hts (.fieldLink RX9 24 "WardWalkers$Standing" "today" "I") (by decide +kernel)), (fun _ h9 => h9), tyX9_ok, nmX9, rfl, (fun h => by cases h), by decide +kernel⟩
  have fg_21_8 : hw_FG s args m 21 8 6 := ⟨RX9, "WardWalkers$Standing", RX9, TX9, 7, u_8, hown, rfl, by decide, (hts (.fieldLink RX9 21 "WardWalkers$Standing" "minutes" "[I") (by decide +kernel)), (fun _ h9 => h9)⟩
  refine lv_aload_n hx hb dX9_nextDay_0 rfl (lv_at hl 0 rfl) ?_
  refine lv_dup hx hb dX9_nextDay_1 rfl ?_
  refine hw_get hx hb fg_24_8 hK va rfl dX9_nextDay_2 ?_
  refine lv_iconst (v := 1) hx hb dX9_nextDay_5 (by decide) ?_
  refine lv_iadd hx hb dX9_nextDay_6 ?_
  refine lv_topi (fun x1 e2 => ?_)
  refine hw_put (v := .int x1) (fs' := hw_LS ra x1 fd_a os_a) hx hb fp_24_8 hK hH va (Nat.le_of_ble_eq_true rfl) rfl rfl rfl (fun _ => by rw [G0]; exact ⟨ra, x1, fd_a, os_a, rfl, Ra⟩) hS (hw_AWi G0 (by decide)) dX9_nextDay_7 (fun H locs hH va oq hz hS => ?_)
  refine lv_iconst (v := 0) hx hb dX9_nextDay_10 (by decide) ?_
  refine lv_istore_n (lv' := [(1, .int 0), (0, .ref h0)]) hx hb dX9_nextDay_11 rfl hl (by decide) rfl (fun ls hl => ?_)
  have L12 : ∀ (n5 : Nat) (y1_3 : Int32) (hm : (3 - y1_3.toInt).toNat < n5) (g4 : 0 ≤ y1_3.toInt ∧ y1_3.toInt ≤ 3) (H : Heap) (locs : List Loc) (hH : hw_HT D G H) (va : va_at D.1 vwCl (h0, .inr (8, hw_LS ra x1 fd_a os_a)) H) (hS : va_S (hw_AW G [7, 23] s.heap.size) s.heap H locs) (ls : Array Slot) (hl : lv_has ls 2 [(1, .int y1_3), (0, .ref h0)]), W p l e ({ frames := 0, cells := 0, slots := 0, locals := 0 } : Room) s m args below meth c H locs 0 0 QQ (F0 m 12 ls []) := by
    intro n5
    induction n5 with
    | zero => intro y1_3 hm; exact absurd hm (Nat.not_lt_zero _)
    | succ n5 ih12 =>
      intro y1_3 hm g4 H locs hH va hS ls hl
      refine lv_iload_n hx hb dX9_nextDay_12 rfl (lv_at hl 0 rfl) ?_
      refine lv_iconst (v := 3) hx hb dX9_nextDay_13 (by decide) ?_
      refine lv_icmp_ge (tgt := 30) hx hb dX9_nextDay_14 (by decide) (fun c6 => ?_) (fun c6 => ?_)
      · have b7 : 3 ≤ y1_3.toInt := hw_ile c6
        exact hw_vretM hx hb hr hlocks hQ hS (⟨x1, rfl, hH, va, (by intro h9; have h8 := hw_rng td_a; subst_vars; exact hw_add rfl rfl (by omega) (by omega))⟩) dX9_nextDay_30
      · have b8 : y1_3.toInt < 3 := hw_inle c6
        refine lv_aload_n hx hb dX9_nextDay_17 rfl (lv_at hl 1 rfl) ?_
        refine hw_get hx hb fg_21_8 hK va rfl dX9_nextDay_18 ?_
        refine lv_iload_n hx hb dX9_nextDay_21 rfl (lv_at hl 0 rfl) ?_
        refine lv_iconst (v := 0) hx hb dX9_nextDay_22 (by decide) ?_
        obtain ⟨f9, v10⟩ := hH.a23 (hw_RS_6 Ra)
        refine hw_iast hx hb hK hH v10 (hw_in (by omega) (by omega)) (fun _ => by rw [(hw_RS_6 Ra)]; exact ⟨_, rfl⟩) hS (hw_AWi (hw_RS_6 Ra) (by decide)) dX9_nextDay_23 (fun H locs hH v10 oq hz hS => ?_)
        have va := va_at.kept va (oq _ (hw_ne G0 (hw_RS_6 Ra) (by decide)))
        obtain ⟨x12, e13⟩ : ∃ y : Int32, y = y1_3 + 1 := ⟨_, rfl⟩
        refine lv_iinc (v := x12) (lv' := [(1, .int x12), (0, .ref h0)]) hx hb dX9_nextDay_24 hl (k := 0) rfl (by rw [e13]; rfl) (by decide) rfl (fun ls hl => ?_)
        have t14 : x12.toInt = y1_3.toInt + 1 := by rw [e13]; exact hw_add rfl rfl (by omega) (by omega)
        refine lv_goto (tgt := 12) hx hb dX9_nextDay_27 (by decide) ?_
        exact ih12 x12 (by first | omega | omega) ⟨by first | decide | omega, by first | decide | omega⟩ _ _ hH va hS _ (lv_sub hl [0, 1] rfl)
  exact L12 _ 0 (Nat.lt_succ_self _) ⟨by first | decide | omega, by first | decide | omega⟩ _ _ hH va hS _ (lv_sub hl [0, 1] rfl)

set_option maxHeartbeats 4000000 in
set_option maxRecDepth 100000 in
theorem k_X9_begin (l : Launch) (D : hw_D) (G : Nat → Nat) (h0 : Nat) (p1 : Nat) (sz : Nat) (G0 : G h0 = 7) (G1 : G p1 = 2) : Met l yX9_begin wsX9_begin ({ frames := 0, cells := 0, slots := 0, locals := 0 } : Room) (hw_PC D G [.ref h0, .ref p1] sz (fun H => True)) (hw_QM (fun v H => v = none ∧ hw_HT D G H) (hw_AW G [7, 20, 21, 22, 23] sz)) 0 0 (hw_AW G [7, 20, 21, 22, 23] sz) := by
  refine hw_met (cc := cX9_begin) (maxL := 3) (ret := none) (plainFor_of_name (by decide)) rfl (Nat.le_of_ble_eq_true rfl) ?_
  intro p e s m args below meth c QQ ls hsz hx hb hml hr hts hown hlocks hnm hH hK hST hF hQ hl
  subst hsz
  have hS : va_S (hw_AW G [7, 20, 21, 22, 23] s.heap.size) s.heap s.heap [] := va_S.rf
  have hl : lv_has ls 3 [(0, .ref h0), (1, .ref p1)] := hl
  have u_8 : ∀ w ∈ u_ws RX9 TX9 7, w.before args s = true := fun w hw => hts w ((by decide +kernel : ∀ w ∈ u_ws RX9 TX9 7, w ∈ wsX9_begin) w hw)
  have fp_24_8 : hw_FP s args m 24 8 0 false .int := ⟨RX9, "WardWalkers$Standing", RX9, TX9, 7, tyX9, u_8, hown, rfl, by decide, (hts (.fieldLink RX9 24 "WardWalkers$Standing" "today" "I") (by decide +kernel)), (fun _ h9 => h9), tyX9_ok, nmX9, rfl, (fun h => by cases h), by decide +kernel⟩
  have fp_28_8 : hw_FP s args m 28 8 1 false .int := ⟨RX9, "WardWalkers$Standing", RX9, TX9, 7, tyX9, u_8, hown, rfl, by decide, (hts (.fieldLink RX9 28 "WardWalkers$Standing" "found" "I") (by decide +kernel)), (fun _ h9 => h9), tyX9_ok, nmX9, rfl, (fun h => by cases h), by decide +kernel⟩
  have fp_31_8 : hw_FP s args m 31 8 2 false .int := ⟨RX9, "WardWalkers$Standing", RX9, TX9, 7, tyX9, u_8, hown, rfl, by decide, (hts (.fieldLink RX9 31 "WardWalkers$Standing" "openSet" "I") (by decide +kernel)), (fun _ h9 => h9), tyX9_ok, nmX9, rfl, (fun h => by cases h), by decide +kernel⟩
  have fg_18_8 : hw_FG s args m 18 8 5 := ⟨RX9, "WardWalkers$Standing", RX9, TX9, 7, u_8, hown, rfl, by decide, (hts (.fieldLink RX9 18 "WardWalkers$Standing" "places" "[I") (by decide +kernel)), (fun _ h9 => h9)⟩
  have u_1 : ∀ w ∈ u_ws RX1 TX1 7, w.before args s = true := fun w hw => hts w ((by decide +kernel : ∀ w ∈ u_ws RX1 TX1 7, w ∈ wsX9_begin) w hw)
  have fg_34_1 : hw_FG s args m 34 1 4 := ⟨RX9, "WardWalkers$Country", RX1, TX1, 7, u_1, hown, rfl, by decide, (hts (.fieldLink RX9 34 "WardWalkers$Country" "toldPlaces" "[I") (by decide +kernel)), (fun _ h9 => h9)⟩
  have fg_21_8 : hw_FG s args m 21 8 6 := ⟨RX9, "WardWalkers$Standing", RX9, TX9, 7, u_8, hown, rfl, by decide, (hts (.fieldLink RX9 21 "WardWalkers$Standing" "minutes" "[I") (by decide +kernel)), (fun _ h9 => h9)⟩
  have fg_9_8 : hw_FG s args m 9 8 3 := ⟨RX9, "WardWalkers$Standing", RX9, TX9, 7, u_8, hown, rfl, by decide, (hts (.fieldLink RX9 9 "WardWalkers$Standing" "bent" "[I") (by decide +kernel)), (fun _ h9 => h9)⟩
  have fg_15_8 : hw_FG s args m 15 8 4 := ⟨RX9, "WardWalkers$Standing", RX9, TX9, 7, u_8, hown, rfl, by decide, (hts (.fieldLink RX9 15 "WardWalkers$Standing" "turned" "[I") (by decide +kernel)), (fun _ h9 => h9)⟩
  refine lv_aload_n hx hb dX9_begin_0 rfl (lv_at hl 0 rfl) ?_
  refine lv_iconst (v := 0) hx hb dX9_begin_1 (by decide) ?_
  obtain ⟨r1, td_2, fd_3, os_4, v5, R6⟩ := hH.oS G0
  refine hw_put (v := .int 0) (fs' := hw_LS r1 0 fd_3 os_4) hx hb fp_24_8 hK hH v5 (Nat.le_of_ble_eq_true rfl) rfl rfl rfl (fun _ => by rw [G0]; exact ⟨r1, 0, fd_3, os_4, rfl, R6⟩) hS (hw_AWi G0 (by decide)) dX9_begin_2 (fun H locs hH v5 oq hz hS => ?_)
  refine lv_aload_n hx hb dX9_begin_5 rfl (lv_at hl 0 rfl) ?_
  refine lv_iconst (v := 0) hx hb dX9_begin_6 (by decide) ?_
  refine hw_put (v := .int 0) (fs' := hw_LS r1 0 0 os_4) hx hb fp_28_8 hK hH v5 (Nat.le_of_ble_eq_true rfl) rfl rfl rfl (fun _ => by rw [G0]; exact ⟨r1, 0, 0, os_4, rfl, R6⟩) hS (hw_AWi G0 (by decide)) dX9_begin_7 (fun H locs hH v5 oq hz hS => ?_)
  refine lv_aload_n hx hb dX9_begin_10 rfl (lv_at hl 0 rfl) ?_
  refine lv_iconst (v := 0) hx hb dX9_begin_11 (by decide) ?_
  refine hw_put (v := .int 0) (fs' := hw_LS r1 0 0 0) hx hb fp_31_8 hK hH v5 (Nat.le_of_ble_eq_true rfl) rfl rfl rfl (fun _ => by rw [G0]; exact ⟨r1, 0, 0, 0, rfl, R6⟩) hS (hw_AWi G0 (by decide)) dX9_begin_12 (fun H locs hH v5 oq hz hS => ?_)
  refine lv_iconst (v := 0) hx hb dX9_begin_15 (by decide) ?_
  refine lv_istore_n (lv' := [(2, .int 0), (0, .ref h0), (1, .ref p1)]) hx hb dX9_begin_16 rfl hl (by decide) rfl (fun ls hl => ?_)
  have L17 : ∀ (n9 : Nat) (y2_7 : Int32) (hm : (7 - y2_7.toInt).toNat < n9) (g8 : 0 ≤ y2_7.toInt ∧ y2_7.toInt ≤ 7) (H : Heap) (locs : List Loc) (hH : hw_HT D G H) (hS : va_S (hw_AW G [7, 20, 21, 22, 23] s.heap.size) s.heap H locs) (ls : Array Slot) (hl : lv_has ls 3 [(2, .int y2_7), (0, .ref h0), (1, .ref p1)]), W p l e ({ frames := 0, cells := 0, slots := 0, locals := 0 } : Room) s m args below meth c H locs 0 0 QQ (F0 m 17 ls []) := by
    intro n9
    induction n9 with
    | zero => intro y2_7 hm; exact absurd hm (Nat.not_lt_zero _)
    | succ n9 ih17 =>
      intro y2_7 hm g8 H locs hH hS ls hl
      refine lv_iload_n hx hb dX9_begin_17 rfl (lv_at hl 0 rfl) ?_
      refine lv_bipush (v := 7) hx hb dX9_begin_18 (by decide) ?_
      refine lv_icmp_ge (tgt := 43) hx hb dX9_begin_20 (by decide) (fun c10 => ?_) (fun c10 => ?_)
      · have b11 : 7 ≤ y2_7.toInt := hw_ile c10
        refine lv_iconst (v := 0) hx hb dX9_begin_43 (by decide) ?_
        refine lv_istore_n (lv' := [(2, .int 0), (0, .ref h0), (1, .ref p1)]) hx hb dX9_begin_44 rfl hl (by decide) rfl (fun ls hl => ?_)
        have L45 : ∀ (n14 : Nat) (y2_12 : Int32) (hm : (3 - y2_12.toInt).toNat < n14) (g13 : 0 ≤ y2_12.toInt ∧ y2_12.toInt ≤ 3) (H : Heap) (locs : List Loc) (hH : hw_HT D G H) (hS : va_S (hw_AW G [7, 20, 21, 22, 23] s.heap.size) s.heap H locs) (ls : Array Slot) (hl : lv_has ls 3 [(2, .int y2_12), (0, .ref h0), (1, .ref p1)]), W p l e ({ frames := 0, cells := 0, slots := 0, locals := 0 } : Room) s m args below meth c H locs 0 0 QQ (F0 m 45 ls []) := by
          intro n14
          induction n14 with
          | zero => intro y2_12 hm; exact absurd hm (Nat.not_lt_zero _)
          | succ n14 ih45 =>
            intro y2_12 hm g13 H locs hH hS ls hl
            refine lv_iload_n hx hb dX9_begin_45 rfl (lv_at hl 0 rfl) ?_
            refine lv_iconst (v := 3) hx hb dX9_begin_46 (by decide) ?_
            refine lv_icmp_ge (tgt := 75) hx hb dX9_begin_47 (by decide) (fun c15 => ?_) (fun c15 => ?_)
            · have b16 : 3 ≤ y2_12.toInt := hw_ile c15
              exact hw_vretM hx hb hr hlocks hQ hS (⟨rfl, hH⟩) dX9_begin_75
            · have b17 : y2_12.toInt < 3 := hw_inle c15
              refine lv_aload_n hx hb dX9_begin_50 rfl (lv_at hl 1 rfl) ?_
              obtain ⟨r18, td_19, fd_20, os_21, v22, R23⟩ := hH.oS G0
              refine hw_get hx hb fg_18_8 hK v22 rfl dX9_begin_51 ?_
              refine lv_iload_n hx hb dX9_begin_54 rfl (lv_at hl 0 rfl) ?_
              refine lv_aload_n hx hb dX9_begin_55 rfl (lv_at hl 2 rfl) ?_
              obtain ⟨r24, kc_25, lc_26, wc_27, dk_28, v29, R30, g31, g32, g33⟩ := hH.oC G1
              refine hw_get hx hb fg_34_1 hK v29 rfl dX9_begin_56 ?_
              refine lv_iload_n hx hb dX9_begin_59 rfl (lv_at hl 0 rfl) ?_
              obtain ⟨f34, v35⟩ := hH.a12 (hw_RC_4 R30)
              refine hw_iald hx hb hK v35 (hw_in (by omega) (by omega)) dX9_begin_60 ?_
              refine lv_topi (fun x37 e38 => ?_)
              obtain ⟨f39, v40⟩ := hH.a22 (hw_RS_5 R23)
              refine hw_iast hx hb hK hH v40 (hw_in (by omega) (by omega)) (fun _ => by rw [(hw_RS_5 R23)]; exact ⟨_, rfl⟩) hS (hw_AWi (hw_RS_5 R23) (by decide)) dX9_begin_61 (fun H locs hH v40 oq hz hS => ?_)
              have v22 := va_at.kept v22 (oq _ (hw_ne G0 (hw_RS_5 R23) (by decide)))
              have v29 := va_at.kept v29 (oq _ (hw_ne G1 (hw_RS_5 R23) (by decide)))
              refine lv_aload_n hx hb dX9_begin_62 rfl (lv_at hl 1 rfl) ?_
              refine hw_get hx hb fg_21_8 hK v22 rfl dX9_begin_63 ?_
              refine lv_iload_n hx hb dX9_begin_66 rfl (lv_at hl 0 rfl) ?_
              refine lv_iconst (v := 0) hx hb dX9_begin_67 (by decide) ?_
              obtain ⟨f42, v43⟩ := hH.a23 (hw_RS_6 R23)
              refine hw_iast hx hb hK hH v43 (hw_in (by omega) (by omega)) (fun _ => by rw [(hw_RS_6 R23)]; exact ⟨_, rfl⟩) hS (hw_AWi (hw_RS_6 R23) (by decide)) dX9_begin_68 (fun H locs hH v43 oq hz hS => ?_)
              have v22 := va_at.kept v22 (oq _ (hw_ne G0 (hw_RS_6 R23) (by decide)))
              have v29 := va_at.kept v29 (oq _ (hw_ne G1 (hw_RS_6 R23) (by decide)))
              obtain ⟨x45, e46⟩ : ∃ y : Int32, y = y2_12 + 1 := ⟨_, rfl⟩
              refine lv_iinc (v := x45) (lv' := [(2, .int x45), (0, .ref h0), (1, .ref p1)]) hx hb dX9_begin_69 hl (k := 0) rfl (by rw [e46]; rfl) (by decide) rfl (fun ls hl => ?_)
              have t47 : x45.toInt = y2_12.toInt + 1 := by rw [e46]; exact hw_add rfl rfl (by omega) (by omega)
              refine lv_goto (tgt := 45) hx hb dX9_begin_72 (by decide) ?_
              exact ih45 x45 (by first | omega | omega) ⟨by first | decide | omega, by first | decide | omega⟩ _ _ hH hS _ (lv_sub hl [0, 1, 2] rfl)
        exact L45 _ 0 (Nat.lt_succ_self _) ⟨by first | decide | omega, by first | decide | omega⟩ _ _ hH hS _ (lv_sub hl [0, 1, 2] rfl)
      · have b48 : y2_7.toInt < 7 := hw_inle c10
        refine lv_aload_n hx hb dX9_begin_23 rfl (lv_at hl 1 rfl) ?_
        obtain ⟨r49, td_50, fd_51, os_52, v53, R54⟩ := hH.oS G0
        refine hw_get hx hb fg_9_8 hK v53 rfl dX9_begin_24 ?_
        refine lv_iload_n hx hb dX9_begin_27 rfl (lv_at hl 0 rfl) ?_
        refine lv_iconst (v := 0) hx hb dX9_begin_28 (by decide) ?_
        obtain ⟨f55, v56⟩ := hH.a20 (hw_RS_3 R54)
        refine hw_iast hx hb hK hH v56 (hw_in (by omega) (by omega)) (fun _ => by rw [(hw_RS_3 R54)]; exact ⟨_, rfl⟩) hS (hw_AWi (hw_RS_3 R54) (by decide)) dX9_begin_29 (fun H locs hH v56 oq hz hS => ?_)
        have v53 := va_at.kept v53 (oq _ (hw_ne G0 (hw_RS_3 R54) (by decide)))
        refine lv_aload_n hx hb dX9_begin_30 rfl (lv_at hl 1 rfl) ?_
        refine hw_get hx hb fg_15_8 hK v53 rfl dX9_begin_31 ?_
        refine lv_iload_n hx hb dX9_begin_34 rfl (lv_at hl 0 rfl) ?_
        refine lv_iconst (v := 0) hx hb dX9_begin_35 (by decide) ?_
        obtain ⟨f58, v59⟩ := hH.a21 (hw_RS_4 R54)
        refine hw_iast hx hb hK hH v59 (hw_in (by omega) (by omega)) (fun _ => by rw [(hw_RS_4 R54)]; exact ⟨_, rfl⟩) hS (hw_AWi (hw_RS_4 R54) (by decide)) dX9_begin_36 (fun H locs hH v59 oq hz hS => ?_)
        have v53 := va_at.kept v53 (oq _ (hw_ne G0 (hw_RS_4 R54) (by decide)))
        obtain ⟨x61, e62⟩ : ∃ y : Int32, y = y2_7 + 1 := ⟨_, rfl⟩
        refine lv_iinc (v := x61) (lv' := [(2, .int x61), (0, .ref h0), (1, .ref p1)]) hx hb dX9_begin_37 hl (k := 0) rfl (by rw [e62]; rfl) (by decide) rfl (fun ls hl => ?_)
        have t63 : x61.toInt = y2_7.toInt + 1 := by rw [e62]; exact hw_add rfl rfl (by omega) (by omega)
        refine lv_goto (tgt := 17) hx hb dX9_begin_40 (by decide) ?_
        exact ih17 x61 (by first | omega | omega) ⟨by first | decide | omega, by first | decide | omega⟩ _ _ hH hS _ (lv_sub hl [0, 1, 2] rfl)
  exact L17 _ 0 (Nat.lt_succ_self _) ⟨by first | decide | omega, by first | decide | omega⟩ _ _ hH hS _ (lv_sub hl [0, 1, 2] rfl)

set_option maxHeartbeats 4000000 in
set_option maxRecDepth 100000 in
theorem k_X9_takeFrom (l : Launch) (D : hw_D) (G : Nat → Nat) (h0 : Nat) (p1 : Nat) (sz : Nat) (rb : Nat → Nat) (td_b fd_b os_b : Int32) (G0 : G h0 = 7) (G1 : G p1 = 7) (Rb : hw_RS G rb) : Met l yX9_takeFrom wsX9_takeFrom ({ frames := 0, cells := 0, slots := 0, locals := 0 } : Room) (hw_PC D G [.ref h0, .ref p1] sz (fun H => va_at D.1 vwCl (p1, .inr (8, hw_LS rb td_b fd_b os_b)) H)) (hw_QM (fun v H => ∃ (fd_b2 : Int32) (os_b2 : Int32), v = none ∧ hw_HT D G H ∧ va_at D.1 vwCl (p1, .inr (8, hw_LS rb td_b fd_b2 os_b2)) H) (hw_AW G [7, 20, 21, 22, 23] sz)) 0 0 (hw_AW G [7, 20, 21, 22, 23] sz) := by
  refine hw_met (cc := cX9_takeFrom) (maxL := 3) (ret := none) (plainFor_of_name (by decide)) rfl (Nat.le_of_ble_eq_true rfl) ?_
  intro p e s m args below meth c QQ ls hsz hx hb hml hr hts hown hlocks hnm hH hK hST hF hQ hl
  subst hsz
  have hS : va_S (hw_AW G [7, 20, 21, 22, 23] s.heap.size) s.heap s.heap [] := va_S.rf
  have vb := hF
  have hl : lv_has ls 3 [(0, .ref h0), (1, .ref p1)] := hl
  have u_8 : ∀ w ∈ u_ws RX9 TX9 7, w.before args s = true := fun w hw => hts w ((by decide +kernel : ∀ w ∈ u_ws RX9 TX9 7, w ∈ wsX9_takeFrom) w hw)
  have fg_24_8 : hw_FG s args m 24 8 0 := ⟨RX9, "WardWalkers$Standing", RX9, TX9, 7, u_8, hown, rfl, by decide, (hts (.fieldLink RX9 24 "WardWalkers$Standing" "today" "I") (by decide +kernel)), (fun _ h9 => h9)⟩
  have fp_24_8 : hw_FP s args m 24 8 0 false .int := ⟨RX9, "WardWalkers$Standing", RX9, TX9, 7, tyX9, u_8, hown, rfl, by decide, (hts (.fieldLink RX9 24 "WardWalkers$Standing" "today" "I") (by decide +kernel)), (fun _ h9 => h9), tyX9_ok, nmX9, rfl, (fun h => by cases h), by decide +kernel⟩
  have fg_28_8 : hw_FG s args m 28 8 1 := ⟨RX9, "WardWalkers$Standing", RX9, TX9, 7, u_8, hown, rfl, by decide, (hts (.fieldLink RX9 28 "WardWalkers$Standing" "found" "I") (by decide +kernel)), (fun _ h9 => h9)⟩
  have fp_28_8 : hw_FP s args m 28 8 1 false .int := ⟨RX9, "WardWalkers$Standing", RX9, TX9, 7, tyX9, u_8, hown, rfl, by decide, (hts (.fieldLink RX9 28 "WardWalkers$Standing" "found" "I") (by decide +kernel)), (fun _ h9 => h9), tyX9_ok, nmX9, rfl, (fun h => by cases h), by decide +kernel⟩
  have fg_31_8 : hw_FG s args m 31 8 2 := ⟨RX9, "WardWalkers$Standing", RX9, TX9, 7, u_8, hown, rfl, by decide, (hts (.fieldLink RX9 31 "WardWalkers$Standing" "openSet" "I") (by decide +kernel)), (fun _ h9 => h9)⟩
  have fp_31_8 : hw_FP s args m 31 8 2 false .int := ⟨RX9, "WardWalkers$Standing", RX9, TX9, 7, tyX9, u_8, hown, rfl, by decide, (hts (.fieldLink RX9 31 "WardWalkers$Standing" "openSet" "I") (by decide +kernel)), (fun _ h9 => h9), tyX9_ok, nmX9, rfl, (fun h => by cases h), by decide +kernel⟩
  have fg_18_8 : hw_FG s args m 18 8 5 := ⟨RX9, "WardWalkers$Standing", RX9, TX9, 7, u_8, hown, rfl, by decide, (hts (.fieldLink RX9 18 "WardWalkers$Standing" "places" "[I") (by decide +kernel)), (fun _ h9 => h9)⟩
  have fg_21_8 : hw_FG s args m 21 8 6 := ⟨RX9, "WardWalkers$Standing", RX9, TX9, 7, u_8, hown, rfl, by decide, (hts (.fieldLink RX9 21 "WardWalkers$Standing" "minutes" "[I") (by decide +kernel)), (fun _ h9 => h9)⟩
  have fg_9_8 : hw_FG s args m 9 8 3 := ⟨RX9, "WardWalkers$Standing", RX9, TX9, 7, u_8, hown, rfl, by decide, (hts (.fieldLink RX9 9 "WardWalkers$Standing" "bent" "[I") (by decide +kernel)), (fun _ h9 => h9)⟩
  have fg_15_8 : hw_FG s args m 15 8 4 := ⟨RX9, "WardWalkers$Standing", RX9, TX9, 7, u_8, hown, rfl, by decide, (hts (.fieldLink RX9 15 "WardWalkers$Standing" "turned" "[I") (by decide +kernel)), (fun _ h9 => h9)⟩
  by_cases hal : h0 = p1
  · subst hal
    refine lv_aload_n hx hb dX9_takeFrom_0 rfl (lv_at hl 0 rfl) ?_
    refine lv_aload_n hx hb dX9_takeFrom_1 rfl (lv_at hl 1 rfl) ?_
    refine hw_get hx hb fg_24_8 hK vb rfl dX9_takeFrom_2 ?_
    refine hw_put (v := .int td_b) (fs' := hw_LS rb td_b fd_b os_b) hx hb fp_24_8 hK hH vb (Nat.le_of_ble_eq_true rfl) rfl rfl rfl (fun _ => by rw [G0]; exact ⟨rb, td_b, fd_b, os_b, rfl, Rb⟩) hS (hw_AWi G0 (by decide)) dX9_takeFrom_5 (fun H locs hH vb oq hz hS => ?_)
    refine lv_aload_n hx hb dX9_takeFrom_8 rfl (lv_at hl 0 rfl) ?_
    refine lv_aload_n hx hb dX9_takeFrom_9 rfl (lv_at hl 1 rfl) ?_
    refine hw_get hx hb fg_28_8 hK vb rfl dX9_takeFrom_10 ?_
    refine hw_put (v := .int fd_b) (fs' := hw_LS rb td_b fd_b os_b) hx hb fp_28_8 hK hH vb (Nat.le_of_ble_eq_true rfl) rfl rfl rfl (fun _ => by rw [G0]; exact ⟨rb, td_b, fd_b, os_b, rfl, Rb⟩) hS (hw_AWi G0 (by decide)) dX9_takeFrom_13 (fun H locs hH vb oq hz hS => ?_)
    refine lv_aload_n hx hb dX9_takeFrom_16 rfl (lv_at hl 0 rfl) ?_
    refine lv_aload_n hx hb dX9_takeFrom_17 rfl (lv_at hl 1 rfl) ?_
    refine hw_get hx hb fg_31_8 hK vb rfl dX9_takeFrom_18 ?_
    refine hw_put (v := .int os_b) (fs' := hw_LS rb td_b fd_b os_b) hx hb fp_31_8 hK hH vb (Nat.le_of_ble_eq_true rfl) rfl rfl rfl (fun _ => by rw [G0]; exact ⟨rb, td_b, fd_b, os_b, rfl, Rb⟩) hS (hw_AWi G0 (by decide)) dX9_takeFrom_21 (fun H locs hH vb oq hz hS => ?_)
    refine lv_iconst (v := 0) hx hb dX9_takeFrom_24 (by decide) ?_
    refine lv_istore_n (lv' := [(2, .int 0), (0, .ref h0), (1, .ref h0)]) hx hb dX9_takeFrom_25 rfl hl (by decide) rfl (fun ls hl => ?_)
    have L26 : ∀ (n3 : Nat) (y2_1 : Int32) (hm : (7 - y2_1.toInt).toNat < n3) (g2 : 0 ≤ y2_1.toInt ∧ y2_1.toInt ≤ 7) (H : Heap) (locs : List Loc) (hH : hw_HT D G H) (vb : va_at D.1 vwCl (h0, .inr (8, hw_LS rb td_b fd_b os_b)) H) (hS : va_S (hw_AW G [7, 20, 21, 22, 23] s.heap.size) s.heap H locs) (ls : Array Slot) (hl : lv_has ls 3 [(2, .int y2_1), (0, .ref h0), (1, .ref h0)]), W p l e ({ frames := 0, cells := 0, slots := 0, locals := 0 } : Room) s m args below meth c H locs 0 0 QQ (F0 m 26 ls []) := by
      intro n3
      induction n3 with
      | zero => intro y2_1 hm; exact absurd hm (Nat.not_lt_zero _)
      | succ n3 ih26 =>
        intro y2_1 hm g2 H locs hH vb hS ls hl
        refine lv_iload_n hx hb dX9_takeFrom_26 rfl (lv_at hl 0 rfl) ?_
        refine lv_bipush (v := 7) hx hb dX9_takeFrom_27 (by decide) ?_
        refine lv_icmp_ge (tgt := 62) hx hb dX9_takeFrom_29 (by decide) (fun c4 => ?_) (fun c4 => ?_)
        · have b5 : 7 ≤ y2_1.toInt := hw_ile c4
          refine lv_iconst (v := 0) hx hb dX9_takeFrom_62 (by decide) ?_
          refine lv_istore_n (lv' := [(2, .int 0), (0, .ref h0), (1, .ref h0)]) hx hb dX9_takeFrom_63 rfl hl (by decide) rfl (fun ls hl => ?_)
          have L64 : ∀ (n8 : Nat) (y2_6 : Int32) (hm : (3 - y2_6.toInt).toNat < n8) (g7 : 0 ≤ y2_6.toInt ∧ y2_6.toInt ≤ 3) (H : Heap) (locs : List Loc) (hH : hw_HT D G H) (vb : va_at D.1 vwCl (h0, .inr (8, hw_LS rb td_b fd_b os_b)) H) (hS : va_S (hw_AW G [7, 20, 21, 22, 23] s.heap.size) s.heap H locs) (ls : Array Slot) (hl : lv_has ls 3 [(2, .int y2_6), (0, .ref h0), (1, .ref h0)]), W p l e ({ frames := 0, cells := 0, slots := 0, locals := 0 } : Room) s m args below meth c H locs 0 0 QQ (F0 m 64 ls []) := by
            intro n8
            induction n8 with
            | zero => intro y2_6 hm; exact absurd hm (Nat.not_lt_zero _)
            | succ n8 ih64 =>
              intro y2_6 hm g7 H locs hH vb hS ls hl
              refine lv_iload_n hx hb dX9_takeFrom_64 rfl (lv_at hl 0 rfl) ?_
              refine lv_iconst (v := 3) hx hb dX9_takeFrom_65 (by decide) ?_
              refine lv_icmp_ge (tgt := 99) hx hb dX9_takeFrom_66 (by decide) (fun c9 => ?_) (fun c9 => ?_)
              · have b10 : 3 ≤ y2_6.toInt := hw_ile c9
                exact hw_vretM hx hb hr hlocks hQ hS (⟨fd_b, os_b, rfl, hH, vb⟩) dX9_takeFrom_99
              · have b11 : y2_6.toInt < 3 := hw_inle c9
                refine lv_aload_n hx hb dX9_takeFrom_69 rfl (lv_at hl 1 rfl) ?_
                refine hw_get hx hb fg_18_8 hK vb rfl dX9_takeFrom_70 ?_
                refine lv_iload_n hx hb dX9_takeFrom_73 rfl (lv_at hl 0 rfl) ?_
                refine lv_aload_n hx hb dX9_takeFrom_74 rfl (lv_at hl 2 rfl) ?_
                refine hw_get hx hb fg_18_8 hK vb rfl dX9_takeFrom_75 ?_
                refine lv_iload_n hx hb dX9_takeFrom_78 rfl (lv_at hl 0 rfl) ?_
                obtain ⟨f12, v13⟩ := hH.a22 (hw_RS_5 Rb)
                refine hw_iald hx hb hK v13 (hw_in (by omega) (by omega)) dX9_takeFrom_79 ?_
                refine lv_topi (fun x15 e16 => ?_)
                obtain ⟨f17, v18⟩ := hH.a22 (hw_RS_5 Rb)
                refine hw_iast hx hb hK hH v18 (hw_in (by omega) (by omega)) (fun _ => by rw [(hw_RS_5 Rb)]; exact ⟨_, rfl⟩) hS (hw_AWi (hw_RS_5 Rb) (by decide)) dX9_takeFrom_80 (fun H locs hH v18 oq hz hS => ?_)
                have vb := va_at.kept vb (oq _ (hw_ne G0 (hw_RS_5 Rb) (by decide)))
                refine lv_aload_n hx hb dX9_takeFrom_81 rfl (lv_at hl 1 rfl) ?_
                refine hw_get hx hb fg_21_8 hK vb rfl dX9_takeFrom_82 ?_
                refine lv_iload_n hx hb dX9_takeFrom_85 rfl (lv_at hl 0 rfl) ?_
                refine lv_aload_n hx hb dX9_takeFrom_86 rfl (lv_at hl 2 rfl) ?_
                refine hw_get hx hb fg_21_8 hK vb rfl dX9_takeFrom_87 ?_
                refine lv_iload_n hx hb dX9_takeFrom_90 rfl (lv_at hl 0 rfl) ?_
                obtain ⟨f20, v21⟩ := hH.a23 (hw_RS_6 Rb)
                refine hw_iald hx hb hK v21 (hw_in (by omega) (by omega)) dX9_takeFrom_91 ?_
                refine lv_topi (fun x23 e24 => ?_)
                obtain ⟨f25, v26⟩ := hH.a23 (hw_RS_6 Rb)
                refine hw_iast hx hb hK hH v26 (hw_in (by omega) (by omega)) (fun _ => by rw [(hw_RS_6 Rb)]; exact ⟨_, rfl⟩) hS (hw_AWi (hw_RS_6 Rb) (by decide)) dX9_takeFrom_92 (fun H locs hH v26 oq hz hS => ?_)
                have vb := va_at.kept vb (oq _ (hw_ne G0 (hw_RS_6 Rb) (by decide)))
                obtain ⟨x28, e29⟩ : ∃ y : Int32, y = y2_6 + 1 := ⟨_, rfl⟩
                refine lv_iinc (v := x28) (lv' := [(2, .int x28), (0, .ref h0), (1, .ref h0)]) hx hb dX9_takeFrom_93 hl (k := 0) rfl (by rw [e29]; rfl) (by decide) rfl (fun ls hl => ?_)
                have t30 : x28.toInt = y2_6.toInt + 1 := by rw [e29]; exact hw_add rfl rfl (by omega) (by omega)
                refine lv_goto (tgt := 64) hx hb dX9_takeFrom_96 (by decide) ?_
                exact ih64 x28 (by first | omega | omega) ⟨by first | decide | omega, by first | decide | omega⟩ _ _ hH vb hS _ (lv_sub hl [0, 1, 2] rfl)
          exact L64 _ 0 (Nat.lt_succ_self _) ⟨by first | decide | omega, by first | decide | omega⟩ _ _ hH vb hS _ (lv_sub hl [0, 1, 2] rfl)
        · have b31 : y2_1.toInt < 7 := hw_inle c4
          refine lv_aload_n hx hb dX9_takeFrom_32 rfl (lv_at hl 1 rfl) ?_
          refine hw_get hx hb fg_9_8 hK vb rfl dX9_takeFrom_33 ?_
          refine lv_iload_n hx hb dX9_takeFrom_36 rfl (lv_at hl 0 rfl) ?_
          refine lv_aload_n hx hb dX9_takeFrom_37 rfl (lv_at hl 2 rfl) ?_
          refine hw_get hx hb fg_9_8 hK vb rfl dX9_takeFrom_38 ?_
          refine lv_iload_n hx hb dX9_takeFrom_41 rfl (lv_at hl 0 rfl) ?_
          obtain ⟨f32, v33⟩ := hH.a20 (hw_RS_3 Rb)
          refine hw_iald hx hb hK v33 (hw_in (by omega) (by omega)) dX9_takeFrom_42 ?_
          refine lv_topi (fun x35 e36 => ?_)
          obtain ⟨f37, v38⟩ := hH.a20 (hw_RS_3 Rb)
          refine hw_iast hx hb hK hH v38 (hw_in (by omega) (by omega)) (fun _ => by rw [(hw_RS_3 Rb)]; exact ⟨_, rfl⟩) hS (hw_AWi (hw_RS_3 Rb) (by decide)) dX9_takeFrom_43 (fun H locs hH v38 oq hz hS => ?_)
          have vb := va_at.kept vb (oq _ (hw_ne G0 (hw_RS_3 Rb) (by decide)))
          refine lv_aload_n hx hb dX9_takeFrom_44 rfl (lv_at hl 1 rfl) ?_
          refine hw_get hx hb fg_15_8 hK vb rfl dX9_takeFrom_45 ?_
          refine lv_iload_n hx hb dX9_takeFrom_48 rfl (lv_at hl 0 rfl) ?_
          refine lv_aload_n hx hb dX9_takeFrom_49 rfl (lv_at hl 2 rfl) ?_
          refine hw_get hx hb fg_15_8 hK vb rfl dX9_takeFrom_50 ?_
          refine lv_iload_n hx hb dX9_takeFrom_53 rfl (lv_at hl 0 rfl) ?_
          obtain ⟨f40, v41⟩ := hH.a21 (hw_RS_4 Rb)
          refine hw_iald hx hb hK v41 (hw_in (by omega) (by omega)) dX9_takeFrom_54 ?_
          refine lv_topi (fun x43 e44 => ?_)
          obtain ⟨f45, v46⟩ := hH.a21 (hw_RS_4 Rb)
          refine hw_iast hx hb hK hH v46 (hw_in (by omega) (by omega)) (fun _ => by rw [(hw_RS_4 Rb)]; exact ⟨_, rfl⟩) hS (hw_AWi (hw_RS_4 Rb) (by decide)) dX9_takeFrom_55 (fun H locs hH v46 oq hz hS => ?_)
          have vb := va_at.kept vb (oq _ (hw_ne G0 (hw_RS_4 Rb) (by decide)))
          obtain ⟨x48, e49⟩ : ∃ y : Int32, y = y2_1 + 1 := ⟨_, rfl⟩
          refine lv_iinc (v := x48) (lv' := [(2, .int x48), (0, .ref h0), (1, .ref h0)]) hx hb dX9_takeFrom_56 hl (k := 0) rfl (by rw [e49]; rfl) (by decide) rfl (fun ls hl => ?_)
          have t50 : x48.toInt = y2_1.toInt + 1 := by rw [e49]; exact hw_add rfl rfl (by omega) (by omega)
          refine lv_goto (tgt := 26) hx hb dX9_takeFrom_59 (by decide) ?_
          exact ih26 x48 (by first | omega | omega) ⟨by first | decide | omega, by first | decide | omega⟩ _ _ hH vb hS _ (lv_sub hl [0, 1, 2] rfl)
    exact L26 _ 0 (Nat.lt_succ_self _) ⟨by first | decide | omega, by first | decide | omega⟩ _ _ hH vb hS _ (lv_sub hl [0, 1, 2] rfl)
  · refine lv_aload_n hx hb dX9_takeFrom_0 rfl (lv_at hl 0 rfl) ?_
    refine lv_aload_n hx hb dX9_takeFrom_1 rfl (lv_at hl 1 rfl) ?_
    refine hw_get hx hb fg_24_8 hK vb rfl dX9_takeFrom_2 ?_
    obtain ⟨r51, td_52, fd_53, os_54, v55, R56⟩ := hH.oS G0
    refine hw_put (v := .int td_b) (fs' := hw_LS r51 td_b fd_53 os_54) hx hb fp_24_8 hK hH v55 (Nat.le_of_ble_eq_true rfl) rfl rfl rfl (fun _ => by rw [G0]; exact ⟨r51, td_b, fd_53, os_54, rfl, R56⟩) hS (hw_AWi G0 (by decide)) dX9_takeFrom_5 (fun H locs hH v55 oq hz hS => ?_)
    have vb := va_at.kept vb (oq _ (fun h9 => hal h9.symm))
    refine lv_aload_n hx hb dX9_takeFrom_8 rfl (lv_at hl 0 rfl) ?_
    refine lv_aload_n hx hb dX9_takeFrom_9 rfl (lv_at hl 1 rfl) ?_
    refine hw_get hx hb fg_28_8 hK vb rfl dX9_takeFrom_10 ?_
    refine hw_put (v := .int fd_b) (fs' := hw_LS r51 td_b fd_b os_54) hx hb fp_28_8 hK hH v55 (Nat.le_of_ble_eq_true rfl) rfl rfl rfl (fun _ => by rw [G0]; exact ⟨r51, td_b, fd_b, os_54, rfl, R56⟩) hS (hw_AWi G0 (by decide)) dX9_takeFrom_13 (fun H locs hH v55 oq hz hS => ?_)
    have vb := va_at.kept vb (oq _ (fun h9 => hal h9.symm))
    refine lv_aload_n hx hb dX9_takeFrom_16 rfl (lv_at hl 0 rfl) ?_
    refine lv_aload_n hx hb dX9_takeFrom_17 rfl (lv_at hl 1 rfl) ?_
    refine hw_get hx hb fg_31_8 hK vb rfl dX9_takeFrom_18 ?_
    refine hw_put (v := .int os_b) (fs' := hw_LS r51 td_b fd_b os_b) hx hb fp_31_8 hK hH v55 (Nat.le_of_ble_eq_true rfl) rfl rfl rfl (fun _ => by rw [G0]; exact ⟨r51, td_b, fd_b, os_b, rfl, R56⟩) hS (hw_AWi G0 (by decide)) dX9_takeFrom_21 (fun H locs hH v55 oq hz hS => ?_)
    have vb := va_at.kept vb (oq _ (fun h9 => hal h9.symm))
    refine lv_iconst (v := 0) hx hb dX9_takeFrom_24 (by decide) ?_
    refine lv_istore_n (lv' := [(2, .int 0), (0, .ref h0), (1, .ref p1)]) hx hb dX9_takeFrom_25 rfl hl (by decide) rfl (fun ls hl => ?_)
    have L26 : ∀ (n59 : Nat) (y2_57 : Int32) (hm : (7 - y2_57.toInt).toNat < n59) (g58 : 0 ≤ y2_57.toInt ∧ y2_57.toInt ≤ 7) (H : Heap) (locs : List Loc) (hH : hw_HT D G H) (vb : va_at D.1 vwCl (p1, .inr (8, hw_LS rb td_b fd_b os_b)) H) (hS : va_S (hw_AW G [7, 20, 21, 22, 23] s.heap.size) s.heap H locs) (ls : Array Slot) (hl : lv_has ls 3 [(2, .int y2_57), (0, .ref h0), (1, .ref p1)]), W p l e ({ frames := 0, cells := 0, slots := 0, locals := 0 } : Room) s m args below meth c H locs 0 0 QQ (F0 m 26 ls []) := by
      intro n59
      induction n59 with
      | zero => intro y2_57 hm; exact absurd hm (Nat.not_lt_zero _)
      | succ n59 ih26 =>
        intro y2_57 hm g58 H locs hH vb hS ls hl
        refine lv_iload_n hx hb dX9_takeFrom_26 rfl (lv_at hl 0 rfl) ?_
        refine lv_bipush (v := 7) hx hb dX9_takeFrom_27 (by decide) ?_
        refine lv_icmp_ge (tgt := 62) hx hb dX9_takeFrom_29 (by decide) (fun c60 => ?_) (fun c60 => ?_)
        · have b61 : 7 ≤ y2_57.toInt := hw_ile c60
          refine lv_iconst (v := 0) hx hb dX9_takeFrom_62 (by decide) ?_
          refine lv_istore_n (lv' := [(2, .int 0), (0, .ref h0), (1, .ref p1)]) hx hb dX9_takeFrom_63 rfl hl (by decide) rfl (fun ls hl => ?_)
          have L64 : ∀ (n64 : Nat) (y2_62 : Int32) (hm : (3 - y2_62.toInt).toNat < n64) (g63 : 0 ≤ y2_62.toInt ∧ y2_62.toInt ≤ 3) (H : Heap) (locs : List Loc) (hH : hw_HT D G H) (vb : va_at D.1 vwCl (p1, .inr (8, hw_LS rb td_b fd_b os_b)) H) (hS : va_S (hw_AW G [7, 20, 21, 22, 23] s.heap.size) s.heap H locs) (ls : Array Slot) (hl : lv_has ls 3 [(2, .int y2_62), (0, .ref h0), (1, .ref p1)]), W p l e ({ frames := 0, cells := 0, slots := 0, locals := 0 } : Room) s m args below meth c H locs 0 0 QQ (F0 m 64 ls []) := by
            intro n64
            induction n64 with
            | zero => intro y2_62 hm; exact absurd hm (Nat.not_lt_zero _)
            | succ n64 ih64 =>
              intro y2_62 hm g63 H locs hH vb hS ls hl
              refine lv_iload_n hx hb dX9_takeFrom_64 rfl (lv_at hl 0 rfl) ?_
              refine lv_iconst (v := 3) hx hb dX9_takeFrom_65 (by decide) ?_
              refine lv_icmp_ge (tgt := 99) hx hb dX9_takeFrom_66 (by decide) (fun c65 => ?_) (fun c65 => ?_)
              · have b66 : 3 ≤ y2_62.toInt := hw_ile c65
                exact hw_vretM hx hb hr hlocks hQ hS (⟨fd_b, os_b, rfl, hH, vb⟩) dX9_takeFrom_99
              · have b67 : y2_62.toInt < 3 := hw_inle c65
                refine lv_aload_n hx hb dX9_takeFrom_69 rfl (lv_at hl 1 rfl) ?_
                obtain ⟨r68, td_69, fd_70, os_71, v72, R73⟩ := hH.oS G0
                refine hw_get hx hb fg_18_8 hK v72 rfl dX9_takeFrom_70 ?_
                refine lv_iload_n hx hb dX9_takeFrom_73 rfl (lv_at hl 0 rfl) ?_
                refine lv_aload_n hx hb dX9_takeFrom_74 rfl (lv_at hl 2 rfl) ?_
                refine hw_get hx hb fg_18_8 hK vb rfl dX9_takeFrom_75 ?_
                refine lv_iload_n hx hb dX9_takeFrom_78 rfl (lv_at hl 0 rfl) ?_
                obtain ⟨f74, v75⟩ := hH.a22 (hw_RS_5 Rb)
                refine hw_iald hx hb hK v75 (hw_in (by omega) (by omega)) dX9_takeFrom_79 ?_
                refine lv_topi (fun x77 e78 => ?_)
                obtain ⟨f79, v80⟩ := hH.a22 (hw_RS_5 R73)
                refine hw_iast hx hb hK hH v80 (hw_in (by omega) (by omega)) (fun _ => by rw [(hw_RS_5 R73)]; exact ⟨_, rfl⟩) hS (hw_AWi (hw_RS_5 R73) (by decide)) dX9_takeFrom_80 (fun H locs hH v80 oq hz hS => ?_)
                have vb := va_at.kept vb (oq _ (hw_ne G1 (hw_RS_5 R73) (by decide)))
                have v72 := va_at.kept v72 (oq _ (hw_ne G0 (hw_RS_5 R73) (by decide)))
                refine lv_aload_n hx hb dX9_takeFrom_81 rfl (lv_at hl 1 rfl) ?_
                refine hw_get hx hb fg_21_8 hK v72 rfl dX9_takeFrom_82 ?_
                refine lv_iload_n hx hb dX9_takeFrom_85 rfl (lv_at hl 0 rfl) ?_
                refine lv_aload_n hx hb dX9_takeFrom_86 rfl (lv_at hl 2 rfl) ?_
                refine hw_get hx hb fg_21_8 hK vb rfl dX9_takeFrom_87 ?_
                refine lv_iload_n hx hb dX9_takeFrom_90 rfl (lv_at hl 0 rfl) ?_
                obtain ⟨f82, v83⟩ := hH.a23 (hw_RS_6 Rb)
                refine hw_iald hx hb hK v83 (hw_in (by omega) (by omega)) dX9_takeFrom_91 ?_
                refine lv_topi (fun x85 e86 => ?_)
                obtain ⟨f87, v88⟩ := hH.a23 (hw_RS_6 R73)
                refine hw_iast hx hb hK hH v88 (hw_in (by omega) (by omega)) (fun _ => by rw [(hw_RS_6 R73)]; exact ⟨_, rfl⟩) hS (hw_AWi (hw_RS_6 R73) (by decide)) dX9_takeFrom_92 (fun H locs hH v88 oq hz hS => ?_)
                have vb := va_at.kept vb (oq _ (hw_ne G1 (hw_RS_6 R73) (by decide)))
                have v72 := va_at.kept v72 (oq _ (hw_ne G0 (hw_RS_6 R73) (by decide)))
                obtain ⟨x90, e91⟩ : ∃ y : Int32, y = y2_62 + 1 := ⟨_, rfl⟩
                refine lv_iinc (v := x90) (lv' := [(2, .int x90), (0, .ref h0), (1, .ref p1)]) hx hb dX9_takeFrom_93 hl (k := 0) rfl (by rw [e91]; rfl) (by decide) rfl (fun ls hl => ?_)
                have t92 : x90.toInt = y2_62.toInt + 1 := by rw [e91]; exact hw_add rfl rfl (by omega) (by omega)
                refine lv_goto (tgt := 64) hx hb dX9_takeFrom_96 (by decide) ?_
                exact ih64 x90 (by first | omega | omega) ⟨by first | decide | omega, by first | decide | omega⟩ _ _ hH vb hS _ (lv_sub hl [0, 1, 2] rfl)
          exact L64 _ 0 (Nat.lt_succ_self _) ⟨by first | decide | omega, by first | decide | omega⟩ _ _ hH vb hS _ (lv_sub hl [0, 1, 2] rfl)
        · have b93 : y2_57.toInt < 7 := hw_inle c60
          refine lv_aload_n hx hb dX9_takeFrom_32 rfl (lv_at hl 1 rfl) ?_
          obtain ⟨r94, td_95, fd_96, os_97, v98, R99⟩ := hH.oS G0
          refine hw_get hx hb fg_9_8 hK v98 rfl dX9_takeFrom_33 ?_
          refine lv_iload_n hx hb dX9_takeFrom_36 rfl (lv_at hl 0 rfl) ?_
          refine lv_aload_n hx hb dX9_takeFrom_37 rfl (lv_at hl 2 rfl) ?_
          refine hw_get hx hb fg_9_8 hK vb rfl dX9_takeFrom_38 ?_
          refine lv_iload_n hx hb dX9_takeFrom_41 rfl (lv_at hl 0 rfl) ?_
          obtain ⟨f100, v101⟩ := hH.a20 (hw_RS_3 Rb)
          refine hw_iald hx hb hK v101 (hw_in (by omega) (by omega)) dX9_takeFrom_42 ?_
          refine lv_topi (fun x103 e104 => ?_)
          obtain ⟨f105, v106⟩ := hH.a20 (hw_RS_3 R99)
          refine hw_iast hx hb hK hH v106 (hw_in (by omega) (by omega)) (fun _ => by rw [(hw_RS_3 R99)]; exact ⟨_, rfl⟩) hS (hw_AWi (hw_RS_3 R99) (by decide)) dX9_takeFrom_43 (fun H locs hH v106 oq hz hS => ?_)
          have vb := va_at.kept vb (oq _ (hw_ne G1 (hw_RS_3 R99) (by decide)))
          have v98 := va_at.kept v98 (oq _ (hw_ne G0 (hw_RS_3 R99) (by decide)))
          refine lv_aload_n hx hb dX9_takeFrom_44 rfl (lv_at hl 1 rfl) ?_
          refine hw_get hx hb fg_15_8 hK v98 rfl dX9_takeFrom_45 ?_
          refine lv_iload_n hx hb dX9_takeFrom_48 rfl (lv_at hl 0 rfl) ?_
          refine lv_aload_n hx hb dX9_takeFrom_49 rfl (lv_at hl 2 rfl) ?_
          refine hw_get hx hb fg_15_8 hK vb rfl dX9_takeFrom_50 ?_
          refine lv_iload_n hx hb dX9_takeFrom_53 rfl (lv_at hl 0 rfl) ?_
          obtain ⟨f108, v109⟩ := hH.a21 (hw_RS_4 Rb)
          refine hw_iald hx hb hK v109 (hw_in (by omega) (by omega)) dX9_takeFrom_54 ?_
          refine lv_topi (fun x111 e112 => ?_)
          obtain ⟨f113, v114⟩ := hH.a21 (hw_RS_4 R99)
          refine hw_iast hx hb hK hH v114 (hw_in (by omega) (by omega)) (fun _ => by rw [(hw_RS_4 R99)]; exact ⟨_, rfl⟩) hS (hw_AWi (hw_RS_4 R99) (by decide)) dX9_takeFrom_55 (fun H locs hH v114 oq hz hS => ?_)
          have vb := va_at.kept vb (oq _ (hw_ne G1 (hw_RS_4 R99) (by decide)))
          have v98 := va_at.kept v98 (oq _ (hw_ne G0 (hw_RS_4 R99) (by decide)))
          obtain ⟨x116, e117⟩ : ∃ y : Int32, y = y2_57 + 1 := ⟨_, rfl⟩
          refine lv_iinc (v := x116) (lv' := [(2, .int x116), (0, .ref h0), (1, .ref p1)]) hx hb dX9_takeFrom_56 hl (k := 0) rfl (by rw [e117]; rfl) (by decide) rfl (fun ls hl => ?_)
          have t118 : x116.toInt = y2_57.toInt + 1 := by rw [e117]; exact hw_add rfl rfl (by omega) (by omega)
          refine lv_goto (tgt := 26) hx hb dX9_takeFrom_59 (by decide) ?_
          exact ih26 x116 (by first | omega | omega) ⟨by first | decide | omega, by first | decide | omega⟩ _ _ hH vb hS _ (lv_sub hl [0, 1, 2] rfl)
    exact L26 _ 0 (Nat.lt_succ_self _) ⟨by first | decide | omega, by first | decide | omega⟩ _ _ hH vb hS _ (lv_sub hl [0, 1, 2] rfl)

set_option maxHeartbeats 4000000 in
set_option maxRecDepth 100000 in
theorem k_X1_keyAt (l : Launch) (D : hw_D) (G : Nat → Nat) (h0 : Nat) (p1 : Int32) (sz : Nat) (ra : Nat → Nat) (kc_a lc_a wc_a dk_a : Int32) (G0 : G h0 = 2) (Ra : hw_RC G ra) (gkc_a : 0 ≤ kc_a.toInt ∧ kc_a.toInt ≤ 7) (glc_a : 0 ≤ lc_a.toInt ∧ lc_a.toInt ≤ 7) (gwc_a : 0 ≤ wc_a.toInt ∧ wc_a.toInt ≤ 3) : Met l yX1_keyAt wsX1_keyAt ({ frames := 0, cells := 0, slots := 0, locals := 0 } : Room) (hw_PC D G [.ref h0, .int p1] sz (fun H => va_at D.1 vwCl (h0, .inr (1, hw_LC ra kc_a lc_a wc_a dk_a)) H)) (hw_QR (fun v => (v = .null) ∨ (∃ (r : Nat), v = .ref r ∧ G r = 3 ∧ (0 ≤ p1.toInt ∧ p1.toInt < kc_a.toInt)))) 0 0 (fun _ => False) := by
  refine hw_met (cc := cX1_keyAt) (maxL := 2) (ret := (some (.object "WardWalkers$Key"))) (plainFor_of_name (by decide)) rfl (Nat.le_of_ble_eq_true rfl) ?_
  intro p e s m args below meth c QQ ls hsz hx hb hml hr hts hown hlocks hnm hH hK hST hF hQ hl
  subst hsz
  have hS : va_S (hw_AW G [] s.heap.size) s.heap s.heap [] := va_S.rf
  have va := hF
  have hl : lv_has ls 2 [(0, .ref h0), (1, .int p1)] := hl
  have u_1 : ∀ w ∈ u_ws RX1 TX1 7, w.before args s = true := fun w hw => hts w ((by decide +kernel : ∀ w ∈ u_ws RX1 TX1 7, w ∈ wsX1_keyAt) w hw)
  have fg_31_1 : hw_FG s args m 31 1 1 := ⟨RX1, "WardWalkers$Country", RX1, TX1, 7, u_1, hown, rfl, by decide, (hts (.fieldLink RX1 31 "WardWalkers$Country" "keyCount" "I") (by decide +kernel)), (fun _ h9 => h9)⟩
  have fg_11_1 : hw_FG s args m 11 1 0 := ⟨RX1, "WardWalkers$Country", RX1, TX1, 7, u_1, hown, rfl, by decide, (hts (.fieldLink RX1 11 "WardWalkers$Country" "keys" "[LWardWalkers$Key;") (by decide +kernel)), (fun _ h9 => h9)⟩
  refine lv_iload_n hx hb dX1_keyAt_0 rfl (lv_at hl 1 rfl) ?_
  refine lv_if_lt (tgt := 27) hx hb dX1_keyAt_1 (by decide) (fun c1 => ?_) (fun c1 => ?_)
  · have b2 : p1.toInt < 0 := hw_ilt c1
    refine lv_null hx hb dX1_keyAt_27 ?_
    exact hw_aretR (v := .null) hx hb hr (Or.inl ⟨_, rfl⟩) hlocks hQ (Or.inl rfl) (Or.inl rfl) dX1_keyAt_28
  · have b3 : 0 ≤ p1.toInt := hw_inlt c1
    refine lv_iload_n hx hb dX1_keyAt_4 rfl (lv_at hl 1 rfl) ?_
    refine lv_aload_n hx hb dX1_keyAt_5 rfl (lv_at hl 0 rfl) ?_
    refine hw_get hx hb fg_31_1 hK va rfl dX1_keyAt_6 ?_
    refine lv_icmp_ge (tgt := 27) hx hb dX1_keyAt_9 (by decide) (fun c4 => ?_) (fun c4 => ?_)
    · have b5 : kc_a.toInt ≤ p1.toInt := hw_ile c4
      refine lv_null hx hb dX1_keyAt_27 ?_
      exact hw_aretR (v := .null) hx hb hr (Or.inl ⟨_, rfl⟩) hlocks hQ (Or.inl rfl) (Or.inl rfl) dX1_keyAt_28
    · have b6 : p1.toInt < kc_a.toInt := hw_inle c4
      refine lv_iload_n hx hb dX1_keyAt_12 rfl (lv_at hl 1 rfl) ?_
      refine lv_bipush (v := 7) hx hb dX1_keyAt_13 (by decide) ?_
      refine lv_icmp_ge (tgt := 27) hx hb dX1_keyAt_15 (by decide) (fun c7 => ?_) (fun c7 => ?_)
      · have b8 : 7 ≤ p1.toInt := hw_ile c7
        exfalso; omega
      · have b9 : p1.toInt < 7 := hw_inle c7
        refine lv_aload_n hx hb dX1_keyAt_18 rfl (lv_at hl 0 rfl) ?_
        refine hw_get hx hb fg_11_1 hK va rfl dX1_keyAt_19 ?_
        refine lv_iload_n hx hb dX1_keyAt_22 rfl (lv_at hl 1 rfl) ?_
        obtain ⟨f10, v11, q12⟩ := hH.a10 (hw_RC_0 Ra)
        have n13 : vp_in p1 7 := (hw_in (by omega) (by omega))
        refine hw_aald (t := 3) hx hb hK v11 rfl n13 dX1_keyAt_23 ?_
        have l14 : p1.toNatClampNeg < 7 := Nat.not_le.mp fun q => n13 (Or.inr q)
        obtain ⟨o16, e15⟩ : ∃ z, z = f10 p1.toNatClampNeg := ⟨_, rfl⟩
        rw [← e15]
        refine lv_goto (tgt := 28) hx hb dX1_keyAt_24 (by decide) ?_
        rcases e17 : o16 with _ | b9
        · exact hw_aretR (v := .null) hx hb hr (Or.inl ⟨_, rfl⟩) hlocks hQ (Or.inl rfl) (Or.inl rfl) dX1_keyAt_28
        · have k18 := ((fun b h9 => q12 _ b l14 (e15 ▸ h9))) b9 e17
          exact hw_aretR (v := .ref b9) hx hb hr (Or.inl ⟨_, rfl⟩) hlocks hQ (Or.inr ⟨_, rfl⟩) (Or.inr (⟨b9, rfl, k18, (by first | rfl | trivial | assumption | omega | (intros; first | rfl | assumption | omega | (exfalso; omega)))⟩)) dX1_keyAt_28

set_option maxHeartbeats 4000000 in
set_option maxRecDepth 100000 in
theorem k_X1_lockAt (l : Launch) (D : hw_D) (G : Nat → Nat) (h0 : Nat) (p1 : Int32) (sz : Nat) (ra : Nat → Nat) (kc_a lc_a wc_a dk_a : Int32) (G0 : G h0 = 2) (Ra : hw_RC G ra) (gkc_a : 0 ≤ kc_a.toInt ∧ kc_a.toInt ≤ 7) (glc_a : 0 ≤ lc_a.toInt ∧ lc_a.toInt ≤ 7) (gwc_a : 0 ≤ wc_a.toInt ∧ wc_a.toInt ≤ 3) : Met l yX1_lockAt wsX1_lockAt ({ frames := 0, cells := 0, slots := 0, locals := 0 } : Room) (hw_PC D G [.ref h0, .int p1] sz (fun H => va_at D.1 vwCl (h0, .inr (1, hw_LC ra kc_a lc_a wc_a dk_a)) H)) (hw_QR (fun v => (v = .null) ∨ (∃ (r : Nat), v = .ref r ∧ G r = 4 ∧ (0 ≤ p1.toInt ∧ p1.toInt < lc_a.toInt)))) 0 0 (fun _ => False) := by
  refine hw_met (cc := cX1_lockAt) (maxL := 2) (ret := (some (.object "WardWalkers$Lock"))) (plainFor_of_name (by decide)) rfl (Nat.le_of_ble_eq_true rfl) ?_
  intro p e s m args below meth c QQ ls hsz hx hb hml hr hts hown hlocks hnm hH hK hST hF hQ hl
  subst hsz
  have hS : va_S (hw_AW G [] s.heap.size) s.heap s.heap [] := va_S.rf
  have va := hF
  have hl : lv_has ls 2 [(0, .ref h0), (1, .int p1)] := hl
  have u_1 : ∀ w ∈ u_ws RX1 TX1 7, w.before args s = true := fun w hw => hts w ((by decide +kernel : ∀ w ∈ u_ws RX1 TX1 7, w ∈ wsX1_lockAt) w hw)
  have fg_34_1 : hw_FG s args m 34 1 3 := ⟨RX1, "WardWalkers$Country", RX1, TX1, 7, u_1, hown, rfl, by decide, (hts (.fieldLink RX1 34 "WardWalkers$Country" "lockCount" "I") (by decide +kernel)), (fun _ h9 => h9)⟩
  have fg_19_1 : hw_FG s args m 19 1 2 := ⟨RX1, "WardWalkers$Country", RX1, TX1, 7, u_1, hown, rfl, by decide, (hts (.fieldLink RX1 19 "WardWalkers$Country" "locks" "[LWardWalkers$Lock;") (by decide +kernel)), (fun _ h9 => h9)⟩
  refine lv_iload_n hx hb dX1_lockAt_0 rfl (lv_at hl 1 rfl) ?_
  refine lv_if_lt (tgt := 27) hx hb dX1_lockAt_1 (by decide) (fun c1 => ?_) (fun c1 => ?_)
  · have b2 : p1.toInt < 0 := hw_ilt c1
    refine lv_null hx hb dX1_lockAt_27 ?_
    exact hw_aretR (v := .null) hx hb hr (Or.inl ⟨_, rfl⟩) hlocks hQ (Or.inl rfl) (Or.inl rfl) dX1_lockAt_28
  · have b3 : 0 ≤ p1.toInt := hw_inlt c1
    refine lv_iload_n hx hb dX1_lockAt_4 rfl (lv_at hl 1 rfl) ?_
    refine lv_aload_n hx hb dX1_lockAt_5 rfl (lv_at hl 0 rfl) ?_
    refine hw_get hx hb fg_34_1 hK va rfl dX1_lockAt_6 ?_
    refine lv_icmp_ge (tgt := 27) hx hb dX1_lockAt_9 (by decide) (fun c4 => ?_) (fun c4 => ?_)
    · have b5 : lc_a.toInt ≤ p1.toInt := hw_ile c4
      refine lv_null hx hb dX1_lockAt_27 ?_
      exact hw_aretR (v := .null) hx hb hr (Or.inl ⟨_, rfl⟩) hlocks hQ (Or.inl rfl) (Or.inl rfl) dX1_lockAt_28
    · have b6 : p1.toInt < lc_a.toInt := hw_inle c4
      refine lv_iload_n hx hb dX1_lockAt_12 rfl (lv_at hl 1 rfl) ?_
      refine lv_bipush (v := 7) hx hb dX1_lockAt_13 (by decide) ?_
      refine lv_icmp_ge (tgt := 27) hx hb dX1_lockAt_15 (by decide) (fun c7 => ?_) (fun c7 => ?_)
      · have b8 : 7 ≤ p1.toInt := hw_ile c7
        exfalso; omega
      · have b9 : p1.toInt < 7 := hw_inle c7
        refine lv_aload_n hx hb dX1_lockAt_18 rfl (lv_at hl 0 rfl) ?_
        refine hw_get hx hb fg_19_1 hK va rfl dX1_lockAt_19 ?_
        refine lv_iload_n hx hb dX1_lockAt_22 rfl (lv_at hl 1 rfl) ?_
        obtain ⟨f10, v11, q12⟩ := hH.a11 (hw_RC_2 Ra)
        have n13 : vp_in p1 7 := (hw_in (by omega) (by omega))
        refine hw_aald (t := 4) hx hb hK v11 rfl n13 dX1_lockAt_23 ?_
        have l14 : p1.toNatClampNeg < 7 := Nat.not_le.mp fun q => n13 (Or.inr q)
        obtain ⟨o16, e15⟩ : ∃ z, z = f10 p1.toNatClampNeg := ⟨_, rfl⟩
        rw [← e15]
        refine lv_goto (tgt := 28) hx hb dX1_lockAt_24 (by decide) ?_
        rcases e17 : o16 with _ | b9
        · exact hw_aretR (v := .null) hx hb hr (Or.inl ⟨_, rfl⟩) hlocks hQ (Or.inl rfl) (Or.inl rfl) dX1_lockAt_28
        · have k18 := ((fun b h9 => q12 _ b l14 (e15 ▸ h9))) b9 e17
          exact hw_aretR (v := .ref b9) hx hb hr (Or.inl ⟨_, rfl⟩) hlocks hQ (Or.inr ⟨_, rfl⟩) (Or.inr (⟨b9, rfl, k18, (by first | rfl | trivial | assumption | omega | (intros; first | rfl | assumption | omega | (exfalso; omega)))⟩)) dX1_lockAt_28

set_option maxHeartbeats 4000000 in
set_option maxRecDepth 100000 in
theorem k_X1_hasWalker (l : Launch) (D : hw_D) (G : Nat → Nat) (h0 : Nat) (p1 : Int32) (sz : Nat) (ra : Nat → Nat) (kc_a lc_a wc_a dk_a : Int32) (G0 : G h0 = 2) (Ra : hw_RC G ra) (gkc_a : 0 ≤ kc_a.toInt ∧ kc_a.toInt ≤ 7) (glc_a : 0 ≤ lc_a.toInt ∧ lc_a.toInt ≤ 7) (gwc_a : 0 ≤ wc_a.toInt ∧ wc_a.toInt ≤ 3) : Met l yX1_hasWalker wsX1_hasWalker ({ frames := 0, cells := 0, slots := 0, locals := 0 } : Room) (hw_PC D G [.ref h0, .int p1] sz (fun H => va_at D.1 vwCl (h0, .inr (1, hw_LC ra kc_a lc_a wc_a dk_a)) H)) (hw_QR (fun v => (v = .int 0) ∨ (v = .int 1 ∧ (0 ≤ p1.toInt ∧ p1.toInt < wc_a.toInt)))) 0 0 (fun _ => False) := by
  refine hw_met (cc := cX1_hasWalker) (maxL := 2) (ret := (some .boolean)) (plainFor_of_name (by decide)) rfl (Nat.le_of_ble_eq_true rfl) ?_
  intro p e s m args below meth c QQ ls hsz hx hb hml hr hts hown hlocks hnm hH hK hST hF hQ hl
  subst hsz
  have hS : va_S (hw_AW G [] s.heap.size) s.heap s.heap [] := va_S.rf
  have va := hF
  have hl : lv_has ls 2 [(0, .ref h0), (1, .int p1)] := hl
  have u_1 : ∀ w ∈ u_ws RX1 TX1 7, w.before args s = true := fun w hw => hts w ((by decide +kernel : ∀ w ∈ u_ws RX1 TX1 7, w ∈ wsX1_hasWalker) w hw)
  have fg_37_1 : hw_FG s args m 37 1 5 := ⟨RX1, "WardWalkers$Country", RX1, TX1, 7, u_1, hown, rfl, by decide, (hts (.fieldLink RX1 37 "WardWalkers$Country" "walkerCount" "I") (by decide +kernel)), (fun _ h9 => h9)⟩
  refine lv_iload_n hx hb dX1_hasWalker_0 rfl (lv_at hl 1 rfl) ?_
  refine lv_if_lt (tgt := 16) hx hb dX1_hasWalker_1 (by decide) (fun c1 => ?_) (fun c1 => ?_)
  · have b2 : p1.toInt < 0 := hw_ilt c1
    refine lv_iconst (v := 0) hx hb dX1_hasWalker_16 (by decide) ?_
    exact hw_iretR (v := 0) hx hb hr hlocks hQ rfl (Or.inl rfl) dX1_hasWalker_17
  · have b3 : 0 ≤ p1.toInt := hw_inlt c1
    refine lv_iload_n hx hb dX1_hasWalker_4 rfl (lv_at hl 1 rfl) ?_
    refine lv_aload_n hx hb dX1_hasWalker_5 rfl (lv_at hl 0 rfl) ?_
    refine hw_get hx hb fg_37_1 hK va rfl dX1_hasWalker_6 ?_
    refine lv_icmp_ge (tgt := 16) hx hb dX1_hasWalker_9 (by decide) (fun c4 => ?_) (fun c4 => ?_)
    · have b5 : wc_a.toInt ≤ p1.toInt := hw_ile c4
      refine lv_iconst (v := 0) hx hb dX1_hasWalker_16 (by decide) ?_
      exact hw_iretR (v := 0) hx hb hr hlocks hQ rfl (Or.inl rfl) dX1_hasWalker_17
    · have b6 : p1.toInt < wc_a.toInt := hw_inle c4
      refine lv_iconst (v := 1) hx hb dX1_hasWalker_12 (by decide) ?_
      refine lv_goto (tgt := 17) hx hb dX1_hasWalker_13 (by decide) ?_
      exact hw_iretR (v := 1) hx hb hr hlocks hQ rfl (Or.inr (⟨rfl, (by first | rfl | trivial | assumption | omega | (intros; first | rfl | assumption | omega | (exfalso; omega)))⟩)) dX1_hasWalker_17

set_option maxHeartbeats 4000000 in
set_option maxRecDepth 100000 in
theorem k_X1_allKeys (l : Launch) (D : hw_D) (G : Nat → Nat) (h0 : Nat) (sz : Nat) (G0 : G h0 = 2) : Met l yX1_allKeys wsX1_allKeys ({ frames := 0, cells := 0, slots := 0, locals := 0 } : Room) (hw_PC D G [.ref h0] sz (fun H => True)) (hw_QR (fun v => ∃ (r : Int32), v = .int r)) 0 0 (fun _ => False) := by
  refine hw_met (cc := cX1_allKeys) (maxL := 1) (ret := (some .int)) (plainFor_of_name (by decide)) rfl (Nat.le_of_ble_eq_true rfl) ?_
  intro p e s m args below meth c QQ ls hsz hx hb hml hr hts hown hlocks hnm hH hK hST hF hQ hl
  subst hsz
  have hS : va_S (hw_AW G [] s.heap.size) s.heap s.heap [] := va_S.rf
  have hl : lv_has ls 1 [(0, .ref h0)] := hl
  have u_1 : ∀ w ∈ u_ws RX1 TX1 7, w.before args s = true := fun w hw => hts w ((by decide +kernel : ∀ w ∈ u_ws RX1 TX1 7, w ∈ wsX1_allKeys) w hw)
  have fg_31_1 : hw_FG s args m 31 1 1 := ⟨RX1, "WardWalkers$Country", RX1, TX1, 7, u_1, hown, rfl, by decide, (hts (.fieldLink RX1 31 "WardWalkers$Country" "keyCount" "I") (by decide +kernel)), (fun _ h9 => h9)⟩
  refine lv_iconst (v := 1) hx hb dX1_allKeys_0 (by decide) ?_
  refine lv_aload_n hx hb dX1_allKeys_1 rfl (lv_at hl 0 rfl) ?_
  obtain ⟨r1, kc_2, lc_3, wc_4, dk_5, v6, R7, g8, g9, g10⟩ := hH.oC G0
  refine hw_get hx hb fg_31_1 hK v6 rfl dX1_allKeys_2 ?_
  refine lv_ishl hx hb dX1_allKeys_5 ?_
  refine lv_topi (fun x11 e12 => ?_)
  have t13 : 1 ≤ x11.toInt ∧ x11.toInt ≤ 128 := by rw [e12]; exact hw_sh1b 7 (by decide) (by first | decide | omega) (by first | decide | omega)
  refine lv_iconst (v := 1) hx hb dX1_allKeys_6 (by decide) ?_
  refine lv_isub hx hb dX1_allKeys_7 ?_
  refine lv_topi (fun x14 e15 => ?_)
  have t16 : x14.toInt = x11.toInt - 1 := by rw [e15]; exact hw_sub rfl rfl (by omega) (by omega)
  exact hw_iretR (v := x14) hx hb hr hlocks hQ rfl (⟨x14, rfl⟩) dX1_allKeys_8

set_option maxHeartbeats 4000000 in
set_option maxRecDepth 100000 in
theorem k_X1_clear (l : Launch) (D : hw_D) (G : Nat → Nat) (h0 : Nat) (sz : Nat) (G0 : G h0 = 2) : Met l yX1_clear wsX1_clear ({ frames := 0, cells := 0, slots := 0, locals := 0 } : Room) (hw_PC D G [.ref h0] sz (fun H => True)) (hw_QM (fun v H => v = none ∧ hw_HT D G H) (hw_AW G [2] sz)) 0 0 (hw_AW G [2] sz) := by
  refine hw_met (cc := cX1_clear) (maxL := 1) (ret := none) (plainFor_of_name (by decide)) rfl (Nat.le_of_ble_eq_true rfl) ?_
  intro p e s m args below meth c QQ ls hsz hx hb hml hr hts hown hlocks hnm hH hK hST hF hQ hl
  subst hsz
  have hS : va_S (hw_AW G [2] s.heap.size) s.heap s.heap [] := va_S.rf
  have hl : lv_has ls 1 [(0, .ref h0)] := hl
  have u_1 : ∀ w ∈ u_ws RX1 TX1 7, w.before args s = true := fun w hw => hts w ((by decide +kernel : ∀ w ∈ u_ws RX1 TX1 7, w ∈ wsX1_clear) w hw)
  have fp_31_1 : hw_FP s args m 31 1 1 false .int := ⟨RX1, "WardWalkers$Country", RX1, TX1, 7, tyX1, u_1, hown, rfl, by decide, (hts (.fieldLink RX1 31 "WardWalkers$Country" "keyCount" "I") (by decide +kernel)), (fun _ h9 => h9), tyX1_ok, nmX1, rfl, (fun h => by cases h), by decide +kernel⟩
  have fp_34_1 : hw_FP s args m 34 1 3 false .int := ⟨RX1, "WardWalkers$Country", RX1, TX1, 7, tyX1, u_1, hown, rfl, by decide, (hts (.fieldLink RX1 34 "WardWalkers$Country" "lockCount" "I") (by decide +kernel)), (fun _ h9 => h9), tyX1_ok, nmX1, rfl, (fun h => by cases h), by decide +kernel⟩
  have fp_37_1 : hw_FP s args m 37 1 5 false .int := ⟨RX1, "WardWalkers$Country", RX1, TX1, 7, tyX1, u_1, hown, rfl, by decide, (hts (.fieldLink RX1 37 "WardWalkers$Country" "walkerCount" "I") (by decide +kernel)), (fun _ h9 => h9), tyX1_ok, nmX1, rfl, (fun h => by cases h), by decide +kernel⟩
  have fp_27_1 : hw_FP s args m 27 1 6 false .int := ⟨RX1, "WardWalkers$Country", RX1, TX1, 7, tyX1, u_1, hown, rfl, by decide, (hts (.fieldLink RX1 27 "WardWalkers$Country" "dark" "I") (by decide +kernel)), (fun _ h9 => h9), tyX1_ok, nmX1, rfl, (fun h => by cases h), by decide +kernel⟩
  refine lv_aload_n hx hb dX1_clear_0 rfl (lv_at hl 0 rfl) ?_
  refine lv_iconst (v := 0) hx hb dX1_clear_1 (by decide) ?_
  obtain ⟨r1, kc_2, lc_3, wc_4, dk_5, v6, R7, g8, g9, g10⟩ := hH.oC G0
  refine hw_put (v := .int 0) (fs' := hw_LC r1 0 lc_3 wc_4 dk_5) hx hb fp_31_1 hK hH v6 (Nat.le_of_ble_eq_true rfl) rfl rfl rfl (fun _ => by rw [G0]; exact ⟨r1, 0, lc_3, wc_4, dk_5, rfl, R7, ⟨by first | decide | omega, by first | decide | omega⟩, ⟨by first | decide | omega, by first | decide | omega⟩, ⟨by first | decide | omega, by first | decide | omega⟩⟩) hS (hw_AWi G0 (by decide)) dX1_clear_2 (fun H locs hH v6 oq hz hS => ?_)
  refine lv_aload_n hx hb dX1_clear_5 rfl (lv_at hl 0 rfl) ?_
  refine lv_iconst (v := 0) hx hb dX1_clear_6 (by decide) ?_
  refine hw_put (v := .int 0) (fs' := hw_LC r1 0 0 wc_4 dk_5) hx hb fp_34_1 hK hH v6 (Nat.le_of_ble_eq_true rfl) rfl rfl rfl (fun _ => by rw [G0]; exact ⟨r1, 0, 0, wc_4, dk_5, rfl, R7, ⟨by first | decide | omega, by first | decide | omega⟩, ⟨by first | decide | omega, by first | decide | omega⟩, ⟨by first | decide | omega, by first | decide | omega⟩⟩) hS (hw_AWi G0 (by decide)) dX1_clear_7 (fun H locs hH v6 oq hz hS => ?_)
  refine lv_aload_n hx hb dX1_clear_10 rfl (lv_at hl 0 rfl) ?_
  refine lv_iconst (v := 0) hx hb dX1_clear_11 (by decide) ?_
  refine hw_put (v := .int 0) (fs' := hw_LC r1 0 0 0 dk_5) hx hb fp_37_1 hK hH v6 (Nat.le_of_ble_eq_true rfl) rfl rfl rfl (fun _ => by rw [G0]; exact ⟨r1, 0, 0, 0, dk_5, rfl, R7, ⟨by first | decide | omega, by first | decide | omega⟩, ⟨by first | decide | omega, by first | decide | omega⟩, ⟨by first | decide | omega, by first | decide | omega⟩⟩) hS (hw_AWi G0 (by decide)) dX1_clear_12 (fun H locs hH v6 oq hz hS => ?_)
  refine lv_aload_n hx hb dX1_clear_15 rfl (lv_at hl 0 rfl) ?_
  refine lv_bipush (v := 60) hx hb dX1_clear_16 (by decide) ?_
  refine hw_put (v := .int 60) (fs' := hw_LC r1 0 0 0 60) hx hb fp_27_1 hK hH v6 (Nat.le_of_ble_eq_true rfl) rfl rfl rfl (fun _ => by rw [G0]; exact ⟨r1, 0, 0, 0, 60, rfl, R7, ⟨by first | decide | omega, by first | decide | omega⟩, ⟨by first | decide | omega, by first | decide | omega⟩, ⟨by first | decide | omega, by first | decide | omega⟩⟩) hS (hw_AWi G0 (by decide)) dX1_clear_18 (fun H locs hH v6 oq hz hS => ?_)
  exact hw_vretM hx hb hr hlocks hQ hS (⟨rfl, hH⟩) dX1_clear_21

set_option maxHeartbeats 4000000 in
set_option maxRecDepth 100000 in
theorem k_X1_addWalker (l : Launch) (D : hw_D) (G : Nat → Nat) (h0 : Nat) (p1 : Int32) (sz : Nat) (G0 : G h0 = 2) : Met l yX1_addWalker wsX1_addWalker ({ frames := 0, cells := 0, slots := 0, locals := 0 } : Room) (hw_PC D G [.ref h0, .int p1] sz (fun H => True)) (hw_QM (fun v H => v = none ∧ hw_HT D G H) (hw_AW G [2, 12] sz)) 0 0 (hw_AW G [2, 12] sz) := by
  refine hw_met (cc := cX1_addWalker) (maxL := 2) (ret := none) (plainFor_of_name (by decide)) rfl (Nat.le_of_ble_eq_true rfl) ?_
  intro p e s m args below meth c QQ ls hsz hx hb hml hr hts hown hlocks hnm hH hK hST hF hQ hl
  subst hsz
  have hS : va_S (hw_AW G [2, 12] s.heap.size) s.heap s.heap [] := va_S.rf
  have hl : lv_has ls 2 [(0, .ref h0), (1, .int p1)] := hl
  have u_1 : ∀ w ∈ u_ws RX1 TX1 7, w.before args s = true := fun w hw => hts w ((by decide +kernel : ∀ w ∈ u_ws RX1 TX1 7, w ∈ wsX1_addWalker) w hw)
  have fg_37_1 : hw_FG s args m 37 1 5 := ⟨RX1, "WardWalkers$Country", RX1, TX1, 7, u_1, hown, rfl, by decide, (hts (.fieldLink RX1 37 "WardWalkers$Country" "walkerCount" "I") (by decide +kernel)), (fun _ h9 => h9)⟩
  have fg_23_1 : hw_FG s args m 23 1 4 := ⟨RX1, "WardWalkers$Country", RX1, TX1, 7, u_1, hown, rfl, by decide, (hts (.fieldLink RX1 23 "WardWalkers$Country" "toldPlaces" "[I") (by decide +kernel)), (fun _ h9 => h9)⟩
  have fp_37_1 : hw_FP s args m 37 1 5 false .int := ⟨RX1, "WardWalkers$Country", RX1, TX1, 7, tyX1, u_1, hown, rfl, by decide, (hts (.fieldLink RX1 37 "WardWalkers$Country" "walkerCount" "I") (by decide +kernel)), (fun _ h9 => h9), tyX1_ok, nmX1, rfl, (fun h => by cases h), by decide +kernel⟩
  refine lv_aload_n hx hb dX1_addWalker_0 rfl (lv_at hl 0 rfl) ?_
  obtain ⟨r1, kc_2, lc_3, wc_4, dk_5, v6, R7, g8, g9, g10⟩ := hH.oC G0
  refine hw_get hx hb fg_37_1 hK v6 rfl dX1_addWalker_1 ?_
  refine lv_iconst (v := 3) hx hb dX1_addWalker_4 (by decide) ?_
  refine lv_icmp_ge (tgt := 28) hx hb dX1_addWalker_5 (by decide) (fun c11 => ?_) (fun c11 => ?_)
  · have b12 : 3 ≤ wc_4.toInt := hw_ile c11
    exact hw_vretM hx hb hr hlocks hQ hS (⟨rfl, hH⟩) dX1_addWalker_28
  · have b13 : wc_4.toInt < 3 := hw_inle c11
    refine lv_aload_n hx hb dX1_addWalker_8 rfl (lv_at hl 0 rfl) ?_
    refine hw_get hx hb fg_23_1 hK v6 rfl dX1_addWalker_9 ?_
    refine lv_aload_n hx hb dX1_addWalker_12 rfl (lv_at hl 0 rfl) ?_
    refine hw_get hx hb fg_37_1 hK v6 rfl dX1_addWalker_13 ?_
    refine lv_iload_n hx hb dX1_addWalker_16 rfl (lv_at hl 1 rfl) ?_
    obtain ⟨f14, v15⟩ := hH.a12 (hw_RC_4 R7)
    refine hw_iast hx hb hK hH v15 (hw_in (by omega) (by omega)) (fun _ => by rw [(hw_RC_4 R7)]; exact ⟨_, rfl⟩) hS (hw_AWi (hw_RC_4 R7) (by decide)) dX1_addWalker_17 (fun H locs hH v15 oq hz hS => ?_)
    have v6 := va_at.kept v6 (oq _ (hw_ne G0 (hw_RC_4 R7) (by decide)))
    refine lv_aload_n hx hb dX1_addWalker_18 rfl (lv_at hl 0 rfl) ?_
    refine lv_dup hx hb dX1_addWalker_19 rfl ?_
    refine hw_get hx hb fg_37_1 hK v6 rfl dX1_addWalker_20 ?_
    refine lv_iconst (v := 1) hx hb dX1_addWalker_23 (by decide) ?_
    refine lv_iadd hx hb dX1_addWalker_24 ?_
    refine lv_topi (fun x17 e18 => ?_)
    have t19 : x17.toInt = wc_4.toInt + 1 := by rw [e18]; exact hw_add rfl rfl (by omega) (by omega)
    refine hw_put (v := .int x17) (fs' := hw_LC r1 kc_2 lc_3 x17 dk_5) hx hb fp_37_1 hK hH v6 (Nat.le_of_ble_eq_true rfl) rfl rfl rfl (fun _ => by rw [G0]; exact ⟨r1, kc_2, lc_3, x17, dk_5, rfl, R7, ⟨by first | decide | omega, by first | decide | omega⟩, ⟨by first | decide | omega, by first | decide | omega⟩, ⟨by first | decide | omega, by first | decide | omega⟩⟩) hS (hw_AWi G0 (by decide)) dX1_addWalker_25 (fun H locs hH v6 oq hz hS => ?_)
    exact hw_vretM hx hb hr hlocks hQ hS (⟨rfl, hH⟩) dX1_addWalker_28
