set_option maxHeartbeats 4000000 in
set_option maxRecDepth 100000 in
theorem k_X3_init (l : Launch) (D : hw_D) (G : Nat → Nat) (h0 : Nat) (p1 : Int32) (p2 : Int32) (sz : Nat) (G0 : G h0 = 103) (ci_a : Nat) : Met l yX3_init wsX3_init ({ frames := 1, cells := 0, slots := 0, locals := 12 } : Room) (hw_PC D G [.ref h0, .int p1, .int p2] sz (fun H => va_at D.1 vwCl (h0, .inr (ci_a, [.int 0, .int 0])) H)) (hw_QM (fun v H => ∃ (G2 : Nat → Nat), v = none ∧ hw_HT D G2 H ∧ (∀ q, q < sz → q ≠ h0 → G2 q = G q) ∧ G2 h0 = 3) (hw_AW G [103] sz)) 0 0 (hw_AW G [103] sz) := by
  refine hw_met (cc := cX3_init) (maxL := 3) (ret := none) (plainFor_of_name (by decide)) rfl (Nat.le_of_ble_eq_true rfl) ?_
  intro p e s m args below meth c QQ ls hsz hx hb hml hr hts hown hlocks hnm hH hK hST hF hQ hl
  subst hsz
  have hS : va_S (hw_AW G [103] s.heap.size) s.heap s.heap [] := va_S.rf
  have va := hF
  have hl : lv_has ls 3 [(0, .ref h0), (1, .int p1), (2, .int p2)] := hl
  have u_0 : ∀ w ∈ u_ws RX0 TX0 2, w.before args s = true := fun w hw => hts w ((by decide +kernel : ∀ w ∈ u_ws RX0 TX0 2, w ∈ wsX3_init) w hw)
  have ff_9_0 : hw_FP s args m 9 0 0 true .int := ⟨RX3, "WardWalkers$Key", RX0, TX0, 2, tyX0, u_0, hown, rfl, by decide, (hts (.fieldLink RX3 9 "WardWalkers$Key" "cut" "I") (by decide +kernel)), (fun _ h9 => h9), tyX0_ok, nmX0, rfl, fun _ => rfl, by decide +kernel⟩
  have ff_15_0 : hw_FP s args m 15 0 1 true .int := ⟨RX3, "WardWalkers$Key", RX0, TX0, 2, tyX0, u_0, hown, rfl, by decide, (hts (.fieldLink RX3 15 "WardWalkers$Key" "mark" "I") (by decide +kernel)), (fun _ h9 => h9), tyX0_ok, nmX0, rfl, fun _ => rfl, by decide +kernel⟩
  have u_2 : ∀ w ∈ u_ws RX2 TX2 2, w.before args s = true := fun w hw => hts w ((by decide +kernel : ∀ w ∈ u_ws RX2 TX2 2, w ∈ wsX3_init) w hw)
  have ff_9_2 : hw_FP s args m 9 2 0 true .int := ⟨RX3, "WardWalkers$Key", RX2, TX2, 2, tyX2, u_2, hown, rfl, by decide, (hts (.fieldLink RX3 9 "WardWalkers$Key" "cut" "I") (by decide +kernel)), (fun _ h9 => h9), tyX2_ok, nmX2, rfl, fun _ => rfl, by decide +kernel⟩
  have ff_15_2 : hw_FP s args m 15 2 1 true .int := ⟨RX3, "WardWalkers$Key", RX2, TX2, 2, tyX2, u_2, hown, rfl, by decide, (hts (.fieldLink RX3 15 "WardWalkers$Key" "mark" "I") (by decide +kernel)), (fun _ h9 => h9), tyX2_ok, nmX2, rfl, fun _ => rfl, by decide +kernel⟩
  have u_4 : ∀ w ∈ u_ws RX5 TX5 2, w.before args s = true := fun w hw => hts w ((by decide +kernel : ∀ w ∈ u_ws RX5 TX5 2, w ∈ wsX3_init) w hw)
  have ff_9_4 : hw_FP s args m 9 4 0 true .int := ⟨RX3, "WardWalkers$Key", RX5, TX5, 2, tyX5, u_4, hown, rfl, by decide, (hts (.fieldLink RX3 9 "WardWalkers$Key" "cut" "I") (by decide +kernel)), (fun _ h9 => h9), tyX5_ok, nmX5, rfl, fun _ => rfl, by decide +kernel⟩
  have ff_15_4 : hw_FP s args m 15 4 1 true .int := ⟨RX3, "WardWalkers$Key", RX5, TX5, 2, tyX5, u_4, hown, rfl, by decide, (hts (.fieldLink RX3 15 "WardWalkers$Key" "mark" "I") (by decide +kernel)), (fun _ h9 => h9), tyX5_ok, nmX5, rfl, fun _ => rfl, by decide +kernel⟩
  have u_7 : ∀ w ∈ u_ws RX8 TX8 2, w.before args s = true := fun w hw => hts w ((by decide +kernel : ∀ w ∈ u_ws RX8 TX8 2, w ∈ wsX3_init) w hw)
  have ff_9_7 : hw_FP s args m 9 7 0 true .int := ⟨RX3, "WardWalkers$Key", RX8, TX8, 2, tyX8, u_7, hown, rfl, by decide, (hts (.fieldLink RX3 9 "WardWalkers$Key" "cut" "I") (by decide +kernel)), (fun _ h9 => h9), tyX8_ok, nmX8, rfl, fun _ => rfl, by decide +kernel⟩
  have ff_15_7 : hw_FP s args m 15 7 1 true .int := ⟨RX3, "WardWalkers$Key", RX8, TX8, 2, tyX8, u_7, hown, rfl, by decide, (hts (.fieldLink RX3 15 "WardWalkers$Key" "mark" "I") (by decide +kernel)), (fun _ h9 => h9), tyX8_ok, nmX8, rfl, fun _ => rfl, by decide +kernel⟩
  rcases hci with rfl | rfl | rfl | rfl
  · refine lv_aload_n hx hb dX3_init_0 rfl (lv_at hl 0 rfl) ?_
    refine W.objInit hx hb hown (hts (.methodLink RX3 3 objectInit) (by decide +kernel)) (hts (.instanceMethod objectInit) (by decide +kernel)) (hts (.code objectInit ⟨#[0xb1]⟩ 1 none) (by decide +kernel)) rfl (by rw [hml]; exact hl.1) rfl dX3_init_1 (Nat.le_of_ble_eq_true rfl) (Nat.le_of_ble_eq_true rfl) ?_
    refine W.eq (g2 := F0 m 4 ls []) rfl ?_
    refine lv_aload_n hx hb dX3_init_4 rfl (lv_at hl 0 rfl) ?_
    refine lv_iload_n hx hb dX3_init_5 rfl (lv_at hl 1 rfl) ?_
    refine hw_putF (v := .int p1) (fs' := [.int p1, .int 0]) hx hb ff_9_0 hnm hK hH va (Nat.le_of_ble_eq_true rfl) rfl rfl rfl (fun _ => by rw [G0]; exact (show hw_ok D.2.1 G 103 _ from ⟨0, _, by decide, rfl⟩)) hS (hw_AWi G0 (by decide)) dX3_init_6 (fun H locs hH va oq hz hS => ?_)
    refine lv_aload_n hx hb dX3_init_9 rfl (lv_at hl 0 rfl) ?_
    refine lv_iload_n hx hb dX3_init_10 rfl (lv_at hl 2 rfl) ?_
    refine hw_putF (v := .int p2) (fs' := [.int p1, .int p2]) hx hb ff_15_0 hnm hK hH va (Nat.le_of_ble_eq_true rfl) rfl rfl rfl (fun _ => by rw [G0]; exact (show hw_ok D.2.1 G 103 _ from ⟨0, _, by decide, rfl⟩)) hS (hw_AWi G0 (by decide)) dX3_init_11 (fun H locs hH va oq hz hS => ?_)
    obtain ⟨hH9, hm9⟩ := hw_HT.rekind (k := 3) hH (by rw [G0]; decide) va (show hw_OKey _ from ⟨_, _, Or.inl rfl⟩)
    refine W.widen (k := 0) (n := 0) (by first | decide | omega) (by first | decide | omega) ?_
    exact hw_vretM hx hb hr hlocks hQ hS ⟨(va_up G h0 3), rfl, hH9, (fun q9 h9 n9 => (va_up_ne _ _ n9).trans ((fun _ _ => rfl) q9 h9)), (va_up_self _ _ _)⟩ dX3_init_14
  · refine lv_aload_n hx hb dX3_init_0 rfl (lv_at hl 0 rfl) ?_
    refine W.objInit hx hb hown (hts (.methodLink RX3 3 objectInit) (by decide +kernel)) (hts (.instanceMethod objectInit) (by decide +kernel)) (hts (.code objectInit ⟨#[0xb1]⟩ 1 none) (by decide +kernel)) rfl (by rw [hml]; exact hl.1) rfl dX3_init_1 (Nat.le_of_ble_eq_true rfl) (Nat.le_of_ble_eq_true rfl) ?_
    refine W.eq (g2 := F0 m 4 ls []) rfl ?_
    refine lv_aload_n hx hb dX3_init_4 rfl (lv_at hl 0 rfl) ?_
    refine lv_iload_n hx hb dX3_init_5 rfl (lv_at hl 1 rfl) ?_
    refine hw_putF (v := .int p1) (fs' := [.int p1, .int 0]) hx hb ff_9_2 hnm hK hH va (Nat.le_of_ble_eq_true rfl) rfl rfl rfl (fun _ => by rw [G0]; exact (show hw_ok D.2.1 G 103 _ from ⟨2, _, by decide, rfl⟩)) hS (hw_AWi G0 (by decide)) dX3_init_6 (fun H locs hH va oq hz hS => ?_)
    refine lv_aload_n hx hb dX3_init_9 rfl (lv_at hl 0 rfl) ?_
    refine lv_iload_n hx hb dX3_init_10 rfl (lv_at hl 2 rfl) ?_
    refine hw_putF (v := .int p2) (fs' := [.int p1, .int p2]) hx hb ff_15_2 hnm hK hH va (Nat.le_of_ble_eq_true rfl) rfl rfl rfl (fun _ => by rw [G0]; exact (show hw_ok D.2.1 G 103 _ from ⟨2, _, by decide, rfl⟩)) hS (hw_AWi G0 (by decide)) dX3_init_11 (fun H locs hH va oq hz hS => ?_)
    obtain ⟨hH9, hm9⟩ := hw_HT.rekind (k := 3) hH (by rw [G0]; decide) va (show hw_OKey _ from ⟨_, _, Or.inr (Or.inl rfl)⟩)
    refine W.widen (k := 0) (n := 0) (by first | decide | omega) (by first | decide | omega) ?_
    exact hw_vretM hx hb hr hlocks hQ hS ⟨(va_up G h0 3), rfl, hH9, (fun q9 h9 n9 => (va_up_ne _ _ n9).trans ((fun _ _ => rfl) q9 h9)), (va_up_self _ _ _)⟩ dX3_init_14
  · refine lv_aload_n hx hb dX3_init_0 rfl (lv_at hl 0 rfl) ?_
    refine W.objInit hx hb hown (hts (.methodLink RX3 3 objectInit) (by decide +kernel)) (hts (.instanceMethod objectInit) (by decide +kernel)) (hts (.code objectInit ⟨#[0xb1]⟩ 1 none) (by decide +kernel)) rfl (by rw [hml]; exact hl.1) rfl dX3_init_1 (Nat.le_of_ble_eq_true rfl) (Nat.le_of_ble_eq_true rfl) ?_
    refine W.eq (g2 := F0 m 4 ls []) rfl ?_
    refine lv_aload_n hx hb dX3_init_4 rfl (lv_at hl 0 rfl) ?_
    refine lv_iload_n hx hb dX3_init_5 rfl (lv_at hl 1 rfl) ?_
    refine hw_putF (v := .int p1) (fs' := [.int p1, .int 0]) hx hb ff_9_4 hnm hK hH va (Nat.le_of_ble_eq_true rfl) rfl rfl rfl (fun _ => by rw [G0]; exact (show hw_ok D.2.1 G 103 _ from ⟨4, _, by decide, rfl⟩)) hS (hw_AWi G0 (by decide)) dX3_init_6 (fun H locs hH va oq hz hS => ?_)
    refine lv_aload_n hx hb dX3_init_9 rfl (lv_at hl 0 rfl) ?_
    refine lv_iload_n hx hb dX3_init_10 rfl (lv_at hl 2 rfl) ?_
    refine hw_putF (v := .int p2) (fs' := [.int p1, .int p2]) hx hb ff_15_4 hnm hK hH va (Nat.le_of_ble_eq_true rfl) rfl rfl rfl (fun _ => by rw [G0]; exact (show hw_ok D.2.1 G 103 _ from ⟨4, _, by decide, rfl⟩)) hS (hw_AWi G0 (by decide)) dX3_init_11 (fun H locs hH va oq hz hS => ?_)
    obtain ⟨hH9, hm9⟩ := hw_HT.rekind (k := 3) hH (by rw [G0]; decide) va (show hw_OKey _ from ⟨_, _, Or.inr (Or.inr (Or.inl rfl))⟩)
    refine W.widen (k := 0) (n := 0) (by first | decide | omega) (by first | decide | omega) ?_
    exact hw_vretM hx hb hr hlocks hQ hS ⟨(va_up G h0 3), rfl, hH9, (fun q9 h9 n9 => (va_up_ne _ _ n9).trans ((fun _ _ => rfl) q9 h9)), (va_up_self _ _ _)⟩ dX3_init_14
  · refine lv_aload_n hx hb dX3_init_0 rfl (lv_at hl 0 rfl) ?_
    refine W.objInit hx hb hown (hts (.methodLink RX3 3 objectInit) (by decide +kernel)) (hts (.instanceMethod objectInit) (by decide +kernel)) (hts (.code objectInit ⟨#[0xb1]⟩ 1 none) (by decide +kernel)) rfl (by rw [hml]; exact hl.1) rfl dX3_init_1 (Nat.le_of_ble_eq_true rfl) (Nat.le_of_ble_eq_true rfl) ?_
    refine W.eq (g2 := F0 m 4 ls []) rfl ?_
    refine lv_aload_n hx hb dX3_init_4 rfl (lv_at hl 0 rfl) ?_
    refine lv_iload_n hx hb dX3_init_5 rfl (lv_at hl 1 rfl) ?_
    refine hw_putF (v := .int p1) (fs' := [.int p1, .int 0]) hx hb ff_9_7 hnm hK hH va (Nat.le_of_ble_eq_true rfl) rfl rfl rfl (fun _ => by rw [G0]; exact (show hw_ok D.2.1 G 103 _ from ⟨7, _, by decide, rfl⟩)) hS (hw_AWi G0 (by decide)) dX3_init_6 (fun H locs hH va oq hz hS => ?_)
    refine lv_aload_n hx hb dX3_init_9 rfl (lv_at hl 0 rfl) ?_
    refine lv_iload_n hx hb dX3_init_10 rfl (lv_at hl 2 rfl) ?_
    refine hw_putF (v := .int p2) (fs' := [.int p1, .int p2]) hx hb ff_15_7 hnm hK hH va (Nat.le_of_ble_eq_true rfl) rfl rfl rfl (fun _ => by rw [G0]; exact (show hw_ok D.2.1 G 103 _ from ⟨7, _, by decide, rfl⟩)) hS (hw_AWi G0 (by decide)) dX3_init_11 (fun H locs hH va oq hz hS => ?_)
    obtain ⟨hH9, hm9⟩ := hw_HT.rekind (k := 3) hH (by rw [G0]; decide) va (show hw_OKey _ from ⟨_, _, Or.inr (Or.inr (Or.inr rfl))⟩)
    refine W.widen (k := 0) (n := 0) (by first | decide | omega) (by first | decide | omega) ?_
    exact hw_vretM hx hb hr hlocks hQ hS ⟨(va_up G h0 3), rfl, hH9, (fun q9 h9 n9 => (va_up_ne _ _ n9).trans ((fun _ _ => rfl) q9 h9)), (va_up_self _ _ _)⟩ dX3_init_14

set_option maxHeartbeats 4000000 in
set_option maxRecDepth 100000 in
theorem k_X0_init (l : Launch) (D : hw_D) (G : Nat → Nat) (h0 : Nat) (p1 : Int32) (p2 : Int32) (sz : Nat) (G0 : G h0 = 103) (ci_a : Nat) : Met l yX0_init wsX0_init ({ frames := 2, cells := 0, slots := 0, locals := 34 } : Room) (hw_PC D G [.ref h0, .int p1, .int p2] sz (fun H => va_at D.1 vwCl (h0, .inr (ci_a, [.int 0, .int 0])) H)) (hw_QM (fun v H => ∃ (G2 : Nat → Nat), v = none ∧ hw_HT D G2 H ∧ (∀ q, q < sz → q ≠ h0 → G2 q = G q) ∧ G2 h0 = 3) (hw_AW G [103] sz)) 0 0 (hw_AW G [103] sz) := by
  refine hw_met (cc := cX0_init) (maxL := 3) (ret := none) (plainFor_of_name (by decide)) rfl (Nat.le_of_ble_eq_true rfl) ?_
  intro p e s m args below meth c QQ ls hsz hx hb hml hr hts hown hlocks hnm hH hK hST hF hQ hl
  subst hsz
  have hS : va_S (hw_AW G [103] s.heap.size) s.heap s.heap [] := va_S.rf
  have va := hF
  have hl : lv_has ls 3 [(0, .ref h0), (1, .int p1), (2, .int p2)] := hl
  rcases hci with rfl | rfl | rfl
  · refine lv_aload_n hx hb dX0_init_0 rfl (lv_at hl 0 rfl) ?_
    refine lv_iload_n hx hb dX0_init_1 rfl (lv_at hl 1 rfl) ?_
    refine lv_iload_n hx hb dX0_init_2 rfl (lv_at hl 2 rfl) ?_
    have hHo := hH
    have hS0 := hS
    refine hw_cM (va_runI (As := [.int p1, .int p2]) (rest := []) ⟨hx, hb, hml, hown, hts⟩ (k_X3_init l D G h0 p1 p2 _ G0) (cwI 2 hts gX0_init_X3_init rfl rfl rfl (hts (.initialized RX3) (by decide +kernel)) (hts (.methodLink RX0 1 yX3_init) (by decide +kernel)) (hts (.instanceMethod yX3_init) (by decide +kernel)) rfl (by decide +kernel) ⟨Nat.le_of_ble_eq_true rfl, Nat.le_of_ble_eq_true rfl⟩) (hw_pS hH hK hST hS (by decide) (fun _ h => Or.inl h) trivial) rfl rfl hl.1 rfl (lv_room (Nat.le_of_ble_eq_true rfl)) dX0_init_3 ⟨Nat.le_of_ble_eq_true rfl, Nat.le_of_ble_eq_true rfl⟩) hS (hw_AWsub (by decide) (fun _ _ => rfl) hS.1) (fun v H locs hp hz hk hS => ?_)
    obtain ⟨G1, rfl, hH, i2, k3⟩ := hp
    refine W.widen (k := 0) (n := 0) (by first | decide | omega) (by first | decide | omega) ?_
    exact hw_vretM hx hb hr hlocks hQ hS ⟨G1, rfl, hH, i2, k3⟩ dX0_init_6
  · refine lv_aload_n hx hb dX0_init_0 rfl (lv_at hl 0 rfl) ?_
    refine lv_iload_n hx hb dX0_init_1 rfl (lv_at hl 1 rfl) ?_
    refine lv_iload_n hx hb dX0_init_2 rfl (lv_at hl 2 rfl) ?_
    have hHo := hH
    have hS0 := hS
    refine hw_cM (va_runI (As := [.int p1, .int p2]) (rest := []) ⟨hx, hb, hml, hown, hts⟩ (k_X3_init l D G h0 p1 p2 _ G0) (cwI 2 hts gX0_init_X3_init rfl rfl rfl (hts (.initialized RX3) (by decide +kernel)) (hts (.methodLink RX0 1 yX3_init) (by decide +kernel)) (hts (.instanceMethod yX3_init) (by decide +kernel)) rfl (by decide +kernel) ⟨Nat.le_of_ble_eq_true rfl, Nat.le_of_ble_eq_true rfl⟩) (hw_pS hH hK hST hS (by decide) (fun _ h => Or.inl h) trivial) rfl rfl hl.1 rfl (lv_room (Nat.le_of_ble_eq_true rfl)) dX0_init_3 ⟨Nat.le_of_ble_eq_true rfl, Nat.le_of_ble_eq_true rfl⟩) hS (hw_AWsub (by decide) (fun _ _ => rfl) hS.1) (fun v H locs hp hz hk hS => ?_)
    obtain ⟨G4, rfl, hH, i5, k6⟩ := hp
    refine W.widen (k := 0) (n := 0) (by first | decide | omega) (by first | decide | omega) ?_
    exact hw_vretM hx hb hr hlocks hQ hS ⟨G4, rfl, hH, i5, k6⟩ dX0_init_6
  · refine lv_aload_n hx hb dX0_init_0 rfl (lv_at hl 0 rfl) ?_
    refine lv_iload_n hx hb dX0_init_1 rfl (lv_at hl 1 rfl) ?_
    refine lv_iload_n hx hb dX0_init_2 rfl (lv_at hl 2 rfl) ?_
    have hHo := hH
    have hS0 := hS
    refine hw_cM (va_runI (As := [.int p1, .int p2]) (rest := []) ⟨hx, hb, hml, hown, hts⟩ (k_X3_init l D G h0 p1 p2 _ G0) (cwI 2 hts gX0_init_X3_init rfl rfl rfl (hts (.initialized RX3) (by decide +kernel)) (hts (.methodLink RX0 1 yX3_init) (by decide +kernel)) (hts (.instanceMethod yX3_init) (by decide +kernel)) rfl (by decide +kernel) ⟨Nat.le_of_ble_eq_true rfl, Nat.le_of_ble_eq_true rfl⟩) (hw_pS hH hK hST hS (by decide) (fun _ h => Or.inl h) trivial) rfl rfl hl.1 rfl (lv_room (Nat.le_of_ble_eq_true rfl)) dX0_init_3 ⟨Nat.le_of_ble_eq_true rfl, Nat.le_of_ble_eq_true rfl⟩) hS (hw_AWsub (by decide) (fun _ _ => rfl) hS.1) (fun v H locs hp hz hk hS => ?_)
    obtain ⟨G7, rfl, hH, i8, k9⟩ := hp
    refine W.widen (k := 0) (n := 0) (by first | decide | omega) (by first | decide | omega) ?_
    exact hw_vretM hx hb hr hlocks hQ hS ⟨G7, rfl, hH, i8, k9⟩ dX0_init_6

set_option maxHeartbeats 4000000 in
set_option maxRecDepth 100000 in
theorem k_X2_init (l : Launch) (D : hw_D) (G : Nat → Nat) (h0 : Nat) (p1 : Int32) (p2 : Int32) (sz : Nat) (G0 : G h0 = 103) (ci_a : Nat) : Met l yX2_init wsX2_init ({ frames := 2, cells := 0, slots := 0, locals := 34 } : Room) (hw_PC D G [.ref h0, .int p1, .int p2] sz (fun H => va_at D.1 vwCl (h0, .inr (ci_a, [.int 0, .int 0])) H)) (hw_QM (fun v H => ∃ (G2 : Nat → Nat), v = none ∧ hw_HT D G2 H ∧ (∀ q, q < sz → q ≠ h0 → G2 q = G q) ∧ G2 h0 = 3) (hw_AW G [103] sz)) 0 0 (hw_AW G [103] sz) := by
  refine hw_met (cc := cX2_init) (maxL := 3) (ret := none) (plainFor_of_name (by decide)) rfl (Nat.le_of_ble_eq_true rfl) ?_
  intro p e s m args below meth c QQ ls hsz hx hb hml hr hts hown hlocks hnm hH hK hST hF hQ hl
  subst hsz
  have hS : va_S (hw_AW G [103] s.heap.size) s.heap s.heap [] := va_S.rf
  have va := hF
  have hl : lv_has ls 3 [(0, .ref h0), (1, .int p1), (2, .int p2)] := hl
  rcases hci with rfl
  refine lv_aload_n hx hb dX2_init_0 rfl (lv_at hl 0 rfl) ?_
  refine lv_iload_n hx hb dX2_init_1 rfl (lv_at hl 1 rfl) ?_
  refine lv_iload_n hx hb dX2_init_2 rfl (lv_at hl 2 rfl) ?_
  have hHo := hH
  have hS0 := hS
  refine hw_cM (va_runI (As := [.int p1, .int p2]) (rest := []) ⟨hx, hb, hml, hown, hts⟩ (k_X3_init l D G h0 p1 p2 _ G0) (cwI 2 hts gX2_init_X3_init rfl rfl rfl (hts (.initialized RX3) (by decide +kernel)) (hts (.methodLink RX2 3 yX3_init) (by decide +kernel)) (hts (.instanceMethod yX3_init) (by decide +kernel)) rfl (by decide +kernel) ⟨Nat.le_of_ble_eq_true rfl, Nat.le_of_ble_eq_true rfl⟩) (hw_pS hH hK hST hS (by decide) (fun _ h => Or.inl h) trivial) rfl rfl hl.1 rfl (lv_room (Nat.le_of_ble_eq_true rfl)) dX2_init_3 ⟨Nat.le_of_ble_eq_true rfl, Nat.le_of_ble_eq_true rfl⟩) hS (hw_AWsub (by decide) (fun _ _ => rfl) hS.1) (fun v H locs hp hz hk hS => ?_)
  obtain ⟨G1, rfl, hH, i2, k3⟩ := hp
  refine W.widen (k := 0) (n := 0) (by first | decide | omega) (by first | decide | omega) ?_
  exact hw_vretM hx hb hr hlocks hQ hS ⟨G1, rfl, hH, i2, k3⟩ dX2_init_6

set_option maxHeartbeats 4000000 in
set_option maxRecDepth 100000 in
theorem k_X5_init (l : Launch) (D : hw_D) (G : Nat → Nat) (h0 : Nat) (p1 : Int32) (sz : Nat) (G0 : G h0 = 103) (ci_a : Nat) : Met l yX5_init wsX5_init ({ frames := 3, cells := 0, slots := 0, locals := 56 } : Room) (hw_PC D G [.ref h0, .int p1] sz (fun H => va_at D.1 vwCl (h0, .inr (ci_a, [.int 0, .int 0])) H)) (hw_QM (fun v H => ∃ (G2 : Nat → Nat), v = none ∧ hw_HT D G2 H ∧ (∀ q, q < sz → q ≠ h0 → G2 q = G q) ∧ G2 h0 = 3) (hw_AW G [103] sz)) 0 0 (hw_AW G [103] sz) := by
  refine hw_met (cc := cX5_init) (maxL := 2) (ret := none) (plainFor_of_name (by decide)) rfl (Nat.le_of_ble_eq_true rfl) ?_
  intro p e s m args below meth c QQ ls hsz hx hb hml hr hts hown hlocks hnm hH hK hST hF hQ hl
  subst hsz
  have hS : va_S (hw_AW G [103] s.heap.size) s.heap s.heap [] := va_S.rf
  have va := hF
  have hl : lv_has ls 2 [(0, .ref h0), (1, .int p1)] := hl
  rcases hci with rfl
  refine lv_aload_n hx hb dX5_init_0 rfl (lv_at hl 0 rfl) ?_
  refine lv_iload_n hx hb dX5_init_1 rfl (lv_at hl 1 rfl) ?_
  refine lv_iconst (v := 0) hx hb dX5_init_2 (by decide) ?_
  have hHo := hH
  have hS0 := hS
  refine hw_cM (va_runI (As := [.int p1, .int 0]) (rest := []) ⟨hx, hb, hml, hown, hts⟩ (k_X0_init l D G h0 p1 0 _ G0) (cwI 2 hts gX5_init_X0_init rfl rfl rfl (hts (.initialized RX0) (by decide +kernel)) (hts (.methodLink RX5 3 yX0_init) (by decide +kernel)) (hts (.instanceMethod yX0_init) (by decide +kernel)) rfl (by decide +kernel) ⟨Nat.le_of_ble_eq_true rfl, Nat.le_of_ble_eq_true rfl⟩) (hw_pS hH hK hST hS (by decide) (fun _ h => Or.inl h) trivial) rfl rfl hl.1 rfl (lv_room (Nat.le_of_ble_eq_true rfl)) dX5_init_3 ⟨Nat.le_of_ble_eq_true rfl, Nat.le_of_ble_eq_true rfl⟩) hS (hw_AWsub (by decide) (fun _ _ => rfl) hS.1) (fun v H locs hp hz hk hS => ?_)
  obtain ⟨G1, rfl, hH, i2, k3⟩ := hp
  refine W.widen (k := 0) (n := 0) (by first | decide | omega) (by first | decide | omega) ?_
  exact hw_vretM hx hb hr hlocks hQ hS ⟨G1, rfl, hH, i2, k3⟩ dX5_init_6

set_option maxHeartbeats 4000000 in
set_option maxRecDepth 100000 in
theorem k_X8_init (l : Launch) (D : hw_D) (G : Nat → Nat) (h0 : Nat) (p1 : Int32) (p2 : Int32) (sz : Nat) (G0 : G h0 = 103) (ci_a : Nat) : Met l yX8_init wsX8_init ({ frames := 3, cells := 0, slots := 0, locals := 56 } : Room) (hw_PC D G [.ref h0, .int p1, .int p2] sz (fun H => va_at D.1 vwCl (h0, .inr (ci_a, [.int 0, .int 0])) H)) (hw_QM (fun v H => ∃ (G2 : Nat → Nat), v = none ∧ hw_HT D G2 H ∧ (∀ q, q < sz → q ≠ h0 → G2 q = G q) ∧ G2 h0 = 3) (hw_AW G [103] sz)) 0 0 (hw_AW G [103] sz) := by
  refine hw_met (cc := cX8_init) (maxL := 3) (ret := none) (plainFor_of_name (by decide)) rfl (Nat.le_of_ble_eq_true rfl) ?_
  intro p e s m args below meth c QQ ls hsz hx hb hml hr hts hown hlocks hnm hH hK hST hF hQ hl
  subst hsz
  have hS : va_S (hw_AW G [103] s.heap.size) s.heap s.heap [] := va_S.rf
  have va := hF
  have hl : lv_has ls 3 [(0, .ref h0), (1, .int p1), (2, .int p2)] := hl
  rcases hci with rfl
  refine lv_aload_n hx hb dX8_init_0 rfl (lv_at hl 0 rfl) ?_
  refine lv_iload_n hx hb dX8_init_1 rfl (lv_at hl 1 rfl) ?_
  refine lv_iload_n hx hb dX8_init_2 rfl (lv_at hl 2 rfl) ?_
  have hHo := hH
  have hS0 := hS
  refine hw_cM (va_runI (As := [.int p1, .int p2]) (rest := []) ⟨hx, hb, hml, hown, hts⟩ (k_X0_init l D G h0 p1 p2 _ G0) (cwI 2 hts gX8_init_X0_init rfl rfl rfl (hts (.initialized RX0) (by decide +kernel)) (hts (.methodLink RX8 3 yX0_init) (by decide +kernel)) (hts (.instanceMethod yX0_init) (by decide +kernel)) rfl (by decide +kernel) ⟨Nat.le_of_ble_eq_true rfl, Nat.le_of_ble_eq_true rfl⟩) (hw_pS hH hK hST hS (by decide) (fun _ h => Or.inl h) trivial) rfl rfl hl.1 rfl (lv_room (Nat.le_of_ble_eq_true rfl)) dX8_init_3 ⟨Nat.le_of_ble_eq_true rfl, Nat.le_of_ble_eq_true rfl⟩) hS (hw_AWsub (by decide) (fun _ _ => rfl) hS.1) (fun v H locs hp hz hk hS => ?_)
  obtain ⟨G1, rfl, hH, i2, k3⟩ := hp
  refine W.widen (k := 0) (n := 0) (by first | decide | omega) (by first | decide | omega) ?_
  exact hw_vretM hx hb hr hlocks hQ hS ⟨G1, rfl, hH, i2, k3⟩ dX8_init_6

set_option maxHeartbeats 4000000 in
set_option maxRecDepth 100000 in
theorem k_X4_init (l : Launch) (D : hw_D) (G : Nat → Nat) (h0 : Nat) (p1 : Int32) (p2 : Int32) (p3 : Int32) (p4 : Int32) (sz : Nat) (G0 : G h0 = 104) : Met l yX4_init wsX4_init ({ frames := 1, cells := 0, slots := 0, locals := 12 } : Room) (hw_PC D G [.ref h0, .int p1, .int p2, .int p3, .int p4] sz (fun H => va_at D.1 vwCl (h0, .inr (3, [.int 0, .int 0, .int 0, .int 0])) H)) (hw_QM (fun v H => ∃ (G2 : Nat → Nat), v = none ∧ hw_HT D G2 H ∧ (∀ q, q < sz → q ≠ h0 → G2 q = G q) ∧ G2 h0 = 4) (hw_AW G [104] sz)) 0 0 (hw_AW G [104] sz) := by
  refine hw_met (cc := cX4_init) (maxL := 5) (ret := none) (plainFor_of_name (by decide)) rfl (Nat.le_of_ble_eq_true rfl) ?_
  intro p e s m args below meth c QQ ls hsz hx hb hml hr hts hown hlocks hnm hH hK hST hF hQ hl
  subst hsz
  have hS : va_S (hw_AW G [104] s.heap.size) s.heap s.heap [] := va_S.rf
  have va := hF
  have hl : lv_has ls 5 [(0, .ref h0), (1, .int p1), (2, .int p2), (3, .int p3), (4, .int p4)] := hl
  have u_3 : ∀ w ∈ u_ws RX4 TX4 4, w.before args s = true := fun w hw => hts w ((by decide +kernel : ∀ w ∈ u_ws RX4 TX4 4, w ∈ wsX4_init) w hw)
  have ff_7_3 : hw_FP s args m 7 3 0 true .int := ⟨RX4, "WardWalkers$Lock", RX4, TX4, 4, tyX4, u_3, hown, rfl, by decide, (hts (.fieldLink RX4 7 "WardWalkers$Lock" "place" "I") (by decide +kernel)), (fun _ h9 => h9), tyX4_ok, nmX4, rfl, fun _ => rfl, by decide +kernel⟩
  have ff_13_3 : hw_FP s args m 13 3 1 true .int := ⟨RX4, "WardWalkers$Lock", RX4, TX4, 4, tyX4, u_3, hown, rfl, by decide, (hts (.fieldLink RX4 13 "WardWalkers$Lock" "wanted" "I") (by decide +kernel)), (fun _ h9 => h9), tyX4_ok, nmX4, rfl, fun _ => rfl, by decide +kernel⟩
  have ff_16_3 : hw_FP s args m 16 3 2 true .int := ⟨RX4, "WardWalkers$Lock", RX4, TX4, 4, tyX4, u_3, hown, rfl, by decide, (hts (.fieldLink RX4 16 "WardWalkers$Lock" "play" "I") (by decide +kernel)), (fun _ h9 => h9), tyX4_ok, nmX4, rfl, fun _ => rfl, by decide +kernel⟩
  have ff_19_3 : hw_FP s args m 19 3 3 true .int := ⟨RX4, "WardWalkers$Lock", RX4, TX4, 4, tyX4, u_3, hown, rfl, by decide, (hts (.fieldLink RX4 19 "WardWalkers$Lock" "value" "I") (by decide +kernel)), (fun _ h9 => h9), tyX4_ok, nmX4, rfl, fun _ => rfl, by decide +kernel⟩
  refine lv_aload_n hx hb dX4_init_0 rfl (lv_at hl 0 rfl) ?_
  refine W.objInit hx hb hown (hts (.methodLink RX4 1 objectInit) (by decide +kernel)) (hts (.instanceMethod objectInit) (by decide +kernel)) (hts (.code objectInit ⟨#[0xb1]⟩ 1 none) (by decide +kernel)) rfl (by rw [hml]; exact hl.1) rfl dX4_init_1 (Nat.le_of_ble_eq_true rfl) (Nat.le_of_ble_eq_true rfl) ?_
  refine W.eq (g2 := F0 m 4 ls []) rfl ?_
  refine lv_aload_n hx hb dX4_init_4 rfl (lv_at hl 0 rfl) ?_
  refine lv_iload_n hx hb dX4_init_5 rfl (lv_at hl 1 rfl) ?_
  refine hw_putF (v := .int p1) (fs' := [.int p1, .int 0, .int 0, .int 0]) hx hb ff_7_3 hnm hK hH va (Nat.le_of_ble_eq_true rfl) rfl rfl rfl (fun _ => by rw [G0]; exact (show hw_ok D.2.1 G 104 _ from ⟨_, rfl⟩)) hS (hw_AWi G0 (by decide)) dX4_init_6 (fun H locs hH va oq hz hS => ?_)
  refine lv_aload_n hx hb dX4_init_9 rfl (lv_at hl 0 rfl) ?_
  refine lv_iload_n hx hb dX4_init_10 rfl (lv_at hl 2 rfl) ?_
  refine hw_putF (v := .int p2) (fs' := [.int p1, .int p2, .int 0, .int 0]) hx hb ff_13_3 hnm hK hH va (Nat.le_of_ble_eq_true rfl) rfl rfl rfl (fun _ => by rw [G0]; exact (show hw_ok D.2.1 G 104 _ from ⟨_, rfl⟩)) hS (hw_AWi G0 (by decide)) dX4_init_11 (fun H locs hH va oq hz hS => ?_)
  refine lv_aload_n hx hb dX4_init_14 rfl (lv_at hl 0 rfl) ?_
  refine lv_iload_n hx hb dX4_init_15 rfl (lv_at hl 3 rfl) ?_
  refine hw_putF (v := .int p3) (fs' := [.int p1, .int p2, .int p3, .int 0]) hx hb ff_16_3 hnm hK hH va (Nat.le_of_ble_eq_true rfl) rfl rfl rfl (fun _ => by rw [G0]; exact (show hw_ok D.2.1 G 104 _ from ⟨_, rfl⟩)) hS (hw_AWi G0 (by decide)) dX4_init_16 (fun H locs hH va oq hz hS => ?_)
  refine lv_aload_n hx hb dX4_init_19 rfl (lv_at hl 0 rfl) ?_
  refine lv_iload hx hb dX4_init_20 (lv_at hl 4 rfl) ?_
  refine hw_putF (v := .int p4) (fs' := [.int p1, .int p2, .int p3, .int p4]) hx hb ff_19_3 hnm hK hH va (Nat.le_of_ble_eq_true rfl) rfl rfl rfl (fun _ => by rw [G0]; exact (show hw_ok D.2.1 G 104 _ from ⟨_, rfl⟩)) hS (hw_AWi G0 (by decide)) dX4_init_22 (fun H locs hH va oq hz hS => ?_)
  obtain ⟨hH9, hm9⟩ := hw_HT.rekind (k := 4) hH (by rw [G0]; decide) va (show hw_OL G _ from ⟨(fun _ => 0), p1, p2, p3, p4, rfl⟩)
  refine W.widen (k := 0) (n := 0) (by first | decide | omega) (by first | decide | omega) ?_
  exact hw_vretM hx hb hr hlocks hQ hS ⟨(va_up G h0 4), rfl, hH9, (fun q9 h9 n9 => (va_up_ne _ _ n9).trans ((fun _ _ => rfl) q9 h9)), (va_up_self _ _ _)⟩ dX4_init_25

set_option maxHeartbeats 4000000 in
set_option maxRecDepth 100000 in
theorem k_X1_init (l : Launch) (D : hw_D) (G : Nat → Nat) (h0 : Nat) (sz : Nat) (G0 : G h0 = 102) : Met l yX1_init wsX1_init ({ frames := 1, cells := 3, slots := 17, locals := 12 } : Room) (hw_PC D G [.ref h0] sz (fun H => va_at D.1 vwCl (h0, .inr (1, [.null, .int 0, .null, .int 0, .null, .int 0, .int 0])) H)) (hw_QM (fun v H => ∃ (G2 : Nat → Nat) (r2 : Nat → Nat), v = none ∧ hw_HT D G2 H ∧ (∀ q, q < sz → q ≠ h0 → G2 q = G q) ∧ G2 h0 = 2 ∧ hw_RC G2 r2 ∧ va_at D.1 vwCl (h0, .inr (1, hw_LC r2 0 0 0 60)) H) (hw_AW G [102] sz)) 3 17 (hw_AW G [102] sz) := by
  refine hw_met (cc := cX1_init) (maxL := 1) (ret := none) (plainFor_of_name (by decide)) rfl (Nat.le_of_ble_eq_true rfl) ?_
  intro p e s m args below meth c QQ ls hsz hx hb hml hr hts hown hlocks hnm hH hK hST hF hQ hl
  subst hsz
  have hS : va_S (hw_AW G [102] s.heap.size) s.heap s.heap [] := va_S.rf
  have va := hF
  have hl : lv_has ls 1 [(0, .ref h0)] := hl
  have u_1 : ∀ w ∈ u_ws RX1 TX1 7, w.before args s = true := fun w hw => hts w ((by decide +kernel : ∀ w ∈ u_ws RX1 TX1 7, w ∈ wsX1_init) w hw)
  have ff_11_1 : hw_FP s args m 11 1 0 true (.array (.object "WardWalkers$Key")) := ⟨RX1, "WardWalkers$Country", RX1, TX1, 7, tyX1, u_1, hown, rfl, by decide, (hts (.fieldLink RX1 11 "WardWalkers$Country" "keys" "[LWardWalkers$Key;") (by decide +kernel)), (fun _ h9 => h9), tyX1_ok, nmX1, rfl, fun _ => rfl, by decide +kernel⟩
  have ff_19_1 : hw_FP s args m 19 1 2 true (.array (.object "WardWalkers$Lock")) := ⟨RX1, "WardWalkers$Country", RX1, TX1, 7, tyX1, u_1, hown, rfl, by decide, (hts (.fieldLink RX1 19 "WardWalkers$Country" "locks" "[LWardWalkers$Lock;") (by decide +kernel)), (fun _ h9 => h9), tyX1_ok, nmX1, rfl, fun _ => rfl, by decide +kernel⟩
  have ff_23_1 : hw_FP s args m 23 1 4 true (.array .int) := ⟨RX1, "WardWalkers$Country", RX1, TX1, 7, tyX1, u_1, hown, rfl, by decide, (hts (.fieldLink RX1 23 "WardWalkers$Country" "toldPlaces" "[I") (by decide +kernel)), (fun _ h9 => h9), tyX1_ok, nmX1, rfl, fun _ => rfl, by decide +kernel⟩
  have fp_27_1 : hw_FP s args m 27 1 6 false .int := ⟨RX1, "WardWalkers$Country", RX1, TX1, 7, tyX1, u_1, hown, rfl, by decide, (hts (.fieldLink RX1 27 "WardWalkers$Country" "dark" "I") (by decide +kernel)), (fun _ h9 => h9), tyX1_ok, nmX1, rfl, (fun h => by cases h), by decide +kernel⟩
  refine lv_aload_n hx hb dX1_init_0 rfl (lv_at hl 0 rfl) ?_
  refine W.objInit hx hb hown (hts (.methodLink RX1 3 objectInit) (by decide +kernel)) (hts (.instanceMethod objectInit) (by decide +kernel)) (hts (.code objectInit ⟨#[0xb1]⟩ 1 none) (by decide +kernel)) rfl (by rw [hml]; exact hl.1) rfl dX1_init_1 (Nat.le_of_ble_eq_true rfl) (Nat.le_of_ble_eq_true rfl) ?_
  refine W.eq (g2 := F0 m 4 ls []) rfl ?_
  refine lv_aload_n hx hb dX1_init_4 rfl (lv_at hl 0 rfl) ?_
  refine lv_bipush (v := 7) hx hb dX1_init_5 (by decide) ?_
  have hS0 := hS
  refine hw_newq hx hb 10 hown (hts (.classLink RX1 9 RX3) (by decide +kernel)) (hw_eo_Key hST.ex) (t := 3) rfl hK hH hS (n := 7) (N := 7) (show hw_ok D.2.1 G 10 _ from ⟨_, rfl, fun _ _ _ h9 => by cases h9⟩) (by decide) (by decide) (by decide) (Nat.le_of_ble_eq_true rfl) (Nat.le_of_ble_eq_true rfl) dX1_init_7 (fun q1 G2 H hH m3 m4 k5 l6 e7 v8 oq hz hS => ?_)
  have w9 : s.heap.size ≤ q1 := by have := hS0.1; omega
  have g10 : ∀ x, x < s.heap.size → G2 x = G x := fun x h9 => (l6 x (Nat.lt_of_lt_of_le h9 hS0.1)).trans ((fun _ _ => rfl) x h9)
  have va := va_at.kept va (oq _ (hw_lt va))
  have k11 := hw_kg2 m4 G0 (by decide)
  refine hw_putF (v := .ref q1) (fs' := [.ref q1, .int 0, .null, .int 0, .null, .int 0, .int 0]) hx hb ff_11_1 hnm hK hH va (Nat.le_of_ble_eq_true rfl) rfl rfl rfl (fun _ => by rw [k11]; exact (show hw_ok D.2.1 G2 102 _ from ⟨_, rfl⟩)) hS (hw_AWi2 g10 k11 (by decide)) dX1_init_10 (fun H locs hH va oq hz hS => ?_)
  refine lv_aload_n hx hb dX1_init_13 rfl (lv_at hl 0 rfl) ?_
  refine lv_bipush (v := 7) hx hb dX1_init_14 (by decide) ?_
  have hS0 := hS
  refine hw_newq hx hb 11 hown (hts (.classLink RX1 17 RX4) (by decide +kernel)) (hw_eo_Lock hST.ex) (t := 4) rfl hK hH hS (n := 7) (N := 7) (show hw_ok D.2.1 G2 11 _ from ⟨_, rfl, fun _ _ _ h9 => by cases h9⟩) (by decide) (by decide) (by decide) (Nat.le_of_ble_eq_true rfl) (Nat.le_of_ble_eq_true rfl) dX1_init_16 (fun q12 G13 H hH m14 m15 k16 l17 e18 v19 oq hz hS => ?_)
  have w20 : s.heap.size ≤ q12 := by have := hS0.1; omega
  have g21 : ∀ x, x < s.heap.size → G13 x = G x := fun x h9 => (l17 x (Nat.lt_of_lt_of_le h9 hS0.1)).trans (g10 x h9)
  have va := va_at.kept va (oq _ (hw_lt va))
  have k22 := hw_kg2 m15 k11 (by decide)
  have k23 := hw_kg m14 k5 (by decide) (by decide)
  refine hw_putF (v := .ref q12) (fs' := [.ref q1, .int 0, .ref q12, .int 0, .null, .int 0, .int 0]) hx hb ff_19_1 hnm hK hH va (Nat.le_of_ble_eq_true rfl) rfl rfl rfl (fun _ => by rw [k22]; exact (show hw_ok D.2.1 G13 102 _ from ⟨_, rfl⟩)) hS (hw_AWi2 g21 k22 (by decide)) dX1_init_19 (fun H locs hH va oq hz hS => ?_)
  refine lv_aload_n hx hb dX1_init_22 rfl (lv_at hl 0 rfl) ?_
  refine lv_iconst (v := 3) hx hb dX1_init_23 (by decide) ?_
  have hS0 := hS
  refine hw_newa hx hb 12 (atype := .int) (hts (.arrayClass .int) (by decide +kernel)) (ty := .int) rfl (t := 0) rfl (fun _ h9 => h9) hK hH hS (n := 3) (N := 3) (3, .inl (fun _ => 0)) (fun _ => rfl) (show hw_ok D.2.1 G13 12 _ from ⟨_, rfl⟩) (by decide) (by decide) (by decide) (Nat.le_of_ble_eq_true rfl) (Nat.le_of_ble_eq_true rfl) dX1_init_24 (fun q24 G25 H hH m26 m27 k28 l29 e30 v31 oq hz hS => ?_)
  have w32 : s.heap.size ≤ q24 := by have := hS0.1; omega
  have g33 : ∀ x, x < s.heap.size → G25 x = G x := fun x h9 => (l29 x (Nat.lt_of_lt_of_le h9 hS0.1)).trans (g21 x h9)
  have va := va_at.kept va (oq _ (hw_lt va))
  have k34 := hw_kg2 m27 k22 (by decide)
  have k35 := hw_kg m26 k23 (by decide) (by decide)
  have k36 := hw_kg m26 k16 (by decide) (by decide)
  refine hw_putF (v := .ref q24) (fs' := [.ref q1, .int 0, .ref q12, .int 0, .ref q24, .int 0, .int 0]) hx hb ff_23_1 hnm hK hH va (Nat.le_of_ble_eq_true rfl) rfl rfl rfl (fun _ => by rw [k34]; exact (show hw_ok D.2.1 G25 102 _ from ⟨_, rfl⟩)) hS (hw_AWi2 g33 k34 (by decide)) dX1_init_26 (fun H locs hH va oq hz hS => ?_)
  refine lv_aload_n hx hb dX1_init_29 rfl (lv_at hl 0 rfl) ?_
  refine lv_bipush (v := 60) hx hb dX1_init_30 (by decide) ?_
  refine hw_put (v := .int 60) (fs' := [.ref q1, .int 0, .ref q12, .int 0, .ref q24, .int 0, .int 60]) hx hb fp_27_1 hK hH va (Nat.le_of_ble_eq_true rfl) rfl rfl rfl (fun _ => by rw [k34]; exact (show hw_ok D.2.1 G25 102 _ from ⟨_, rfl⟩)) hS (hw_AWi2 g33 k34 (by decide)) dX1_init_32 (fun H locs hH va oq hz hS => ?_)
  have R37 : hw_RC G25 (fun i9 => [q1, 0, q12, 0, q24, 0, 0].getD i9 0) := ⟨k35, k36, k28⟩
  obtain ⟨hH9, hm9⟩ := hw_HT.rekind (k := 2) hH (by rw [k34]; decide) va (show hw_OC G25 _ from ⟨(fun i9 => [q1, 0, q12, 0, q24, 0, 0].getD i9 0), 0, 0, 0, 60, rfl, R37, ⟨by decide, by decide⟩, ⟨by decide, by decide⟩, ⟨by decide, by decide⟩⟩)
  refine W.widen (k := 3) (n := 17) (by first | decide | omega) (by first | decide | omega) ?_
  exact hw_vretM hx hb hr hlocks hQ hS ⟨(va_up G25 h0 2), (fun i9 => [q1, 0, q12, 0, q24, 0, 0].getD i9 0), rfl, hH9, (fun q9 h9 n9 => (va_up_ne _ _ n9).trans (g33 q9 h9)), (va_up_self _ _ _), (hw_RC_mono hm9 R37), va⟩ dX1_init_35

set_option maxHeartbeats 4000000 in
set_option maxRecDepth 100000 in
theorem k_X6_init (l : Launch) (D : hw_D) (G : Nat → Nat) (h0 : Nat) (sz : Nat) (G0 : G h0 = 105) : Met l yX6_init wsX6_init ({ frames := 1, cells := 6, slots := 2190, locals := 12 } : Room) (hw_PC D G [.ref h0] sz (fun H => va_at D.1 vwCl (h0, .inr (5, [.null, .null, .null, .int 0, .null, .null, .null])) H)) (hw_QM (fun v H => ∃ (G2 : Nat → Nat), v = none ∧ hw_HT D G2 H ∧ (∀ q, q < sz → q ≠ h0 → G2 q = G q) ∧ G2 h0 = 5) (hw_AW G [105] sz)) 6 2190 (hw_AW G [105] sz) := by
  refine hw_met (cc := cX6_init) (maxL := 1) (ret := none) (plainFor_of_name (by decide)) rfl (Nat.le_of_ble_eq_true rfl) ?_
  intro p e s m args below meth c QQ ls hsz hx hb hml hr hts hown hlocks hnm hH hK hST hF hQ hl
  subst hsz
  have hS : va_S (hw_AW G [105] s.heap.size) s.heap s.heap [] := va_S.rf
  have va := hF
  have hl : lv_has ls 1 [(0, .ref h0)] := hl
  have u_5 : ∀ w ∈ u_ws RX6 TX6 7, w.before args s = true := fun w hw => hts w ((by decide +kernel : ∀ w ∈ u_ws RX6 TX6 7, w ∈ wsX6_init) w hw)
  have ff_9_5 : hw_FP s args m 9 5 0 true (.array .int) := ⟨RX6, "WardWalkers$Planner", RX6, TX6, 7, tyX6, u_5, hown, rfl, by decide, (hts (.fieldLink RX6 9 "WardWalkers$Planner" "takers" "[I") (by decide +kernel)), (fun _ h9 => h9), tyX6_ok, nmX6, rfl, fun _ => rfl, by decide +kernel⟩
  have ff_15_5 : hw_FP s args m 15 5 1 true (.array .int) := ⟨RX6, "WardWalkers$Planner", RX6, TX6, 7, tyX6, u_5, hown, rfl, by decide, (hts (.fieldLink RX6 15 "WardWalkers$Planner" "mostFrom" "[I") (by decide +kernel)), (fun _ h9 => h9), tyX6_ok, nmX6, rfl, fun _ => rfl, by decide +kernel⟩
  have ff_18_5 : hw_FP s args m 18 5 2 true (.array .int) := ⟨RX6, "WardWalkers$Planner", RX6, TX6, 7, tyX6, u_5, hown, rfl, by decide, (hts (.fieldLink RX6 18 "WardWalkers$Planner" "chosen" "[I") (by decide +kernel)), (fun _ h9 => h9), tyX6_ok, nmX6, rfl, fun _ => rfl, by decide +kernel⟩
  have ff_21_5 : hw_FP s args m 21 5 4 true (.array .int) := ⟨RX6, "WardWalkers$Planner", RX6, TX6, 7, tyX6, u_5, hown, rfl, by decide, (hts (.fieldLink RX6 21 "WardWalkers$Planner" "through" "[I") (by decide +kernel)), (fun _ h9 => h9), tyX6_ok, nmX6, rfl, fun _ => rfl, by decide +kernel⟩
  have ff_24_5 : hw_FP s args m 24 5 5 true (.array .int) := ⟨RX6, "WardWalkers$Planner", RX6, TX6, 7, tyX6, u_5, hown, rfl, by decide, (hts (.fieldLink RX6 24 "WardWalkers$Planner" "tour" "[I") (by decide +kernel)), (fun _ h9 => h9), tyX6_ok, nmX6, rfl, fun _ => rfl, by decide +kernel⟩
  have ff_27_5 : hw_FP s args m 27 5 6 true (.array .int) := ⟨RX6, "WardWalkers$Planner", RX6, TX6, 7, tyX6, u_5, hown, rfl, by decide, (hts (.fieldLink RX6 27 "WardWalkers$Planner" "latest" "[I") (by decide +kernel)), (fun _ h9 => h9), tyX6_ok, nmX6, rfl, fun _ => rfl, by decide +kernel⟩
  refine lv_aload_n hx hb dX6_init_0 rfl (lv_at hl 0 rfl) ?_
  refine W.objInit hx hb hown (hts (.methodLink RX6 3 objectInit) (by decide +kernel)) (hts (.instanceMethod objectInit) (by decide +kernel)) (hts (.code objectInit ⟨#[0xb1]⟩ 1 none) (by decide +kernel)) rfl (by rw [hml]; exact hl.1) rfl dX6_init_1 (Nat.le_of_ble_eq_true rfl) (Nat.le_of_ble_eq_true rfl) ?_
  refine W.eq (g2 := F0 m 4 ls []) rfl ?_
  refine lv_aload_n hx hb dX6_init_4 rfl (lv_at hl 0 rfl) ?_
  refine lv_bipush (v := 7) hx hb dX6_init_5 (by decide) ?_
  have hS0 := hS
  refine hw_newa hx hb 13 (atype := .int) (hts (.arrayClass .int) (by decide +kernel)) (ty := .int) rfl (t := 0) rfl (fun _ h9 => h9) hK hH hS (n := 7) (N := 7) (7, .inl (fun _ => 0)) (fun _ => rfl) (show hw_ok D.2.1 G 13 _ from ⟨_, rfl⟩) (by decide) (by decide) (by decide) (Nat.le_of_ble_eq_true rfl) (Nat.le_of_ble_eq_true rfl) dX6_init_7 (fun q1 G2 H hH m3 m4 k5 l6 e7 v8 oq hz hS => ?_)
  have w9 : s.heap.size ≤ q1 := by have := hS0.1; omega
  have g10 : ∀ x, x < s.heap.size → G2 x = G x := fun x h9 => (l6 x (Nat.lt_of_lt_of_le h9 hS0.1)).trans ((fun _ _ => rfl) x h9)
  have va := va_at.kept va (oq _ (hw_lt va))
  have k11 := hw_kg2 m4 G0 (by decide)
  refine hw_putF (v := .ref q1) (fs' := [.ref q1, .null, .null, .int 0, .null, .null, .null]) hx hb ff_9_5 hnm hK hH va (Nat.le_of_ble_eq_true rfl) rfl rfl rfl (fun _ => by rw [k11]; exact (show hw_ok D.2.1 G2 105 _ from ⟨_, rfl⟩)) hS (hw_AWi2 g10 k11 (by decide)) dX6_init_9 (fun H locs hH va oq hz hS => ?_)
  refine lv_aload_n hx hb dX6_init_12 rfl (lv_at hl 0 rfl) ?_
  refine lv_sipush (v := 1024) hx hb dX6_init_13 (by decide) ?_
  have hS0 := hS
  refine hw_newa hx hb 14 (atype := .int) (hts (.arrayClass .int) (by decide +kernel)) (ty := .int) rfl (t := 0) rfl (fun _ h9 => h9) hK hH hS (n := 1024) (N := 1024) (1024, .inl (fun _ => 0)) (fun _ => rfl) (show hw_ok D.2.1 G2 14 _ from ⟨_, rfl⟩) (by decide) (by decide) (by decide) (Nat.le_of_ble_eq_true rfl) (Nat.le_of_ble_eq_true rfl) dX6_init_16 (fun q12 G13 H hH m14 m15 k16 l17 e18 v19 oq hz hS => ?_)
  have w20 : s.heap.size ≤ q12 := by have := hS0.1; omega
  have g21 : ∀ x, x < s.heap.size → G13 x = G x := fun x h9 => (l17 x (Nat.lt_of_lt_of_le h9 hS0.1)).trans (g10 x h9)
  have va := va_at.kept va (oq _ (hw_lt va))
  have k22 := hw_kg2 m15 k11 (by decide)
  have k23 := hw_kg m14 k5 (by decide) (by decide)
  refine hw_putF (v := .ref q12) (fs' := [.ref q1, .ref q12, .null, .int 0, .null, .null, .null]) hx hb ff_15_5 hnm hK hH va (Nat.le_of_ble_eq_true rfl) rfl rfl rfl (fun _ => by rw [k22]; exact (show hw_ok D.2.1 G13 105 _ from ⟨_, rfl⟩)) hS (hw_AWi2 g21 k22 (by decide)) dX6_init_18 (fun H locs hH va oq hz hS => ?_)
  refine lv_aload_n hx hb dX6_init_21 rfl (lv_at hl 0 rfl) ?_
  refine lv_bipush (v := 7) hx hb dX6_init_22 (by decide) ?_
  have hS0 := hS
  refine hw_newa hx hb 15 (atype := .int) (hts (.arrayClass .int) (by decide +kernel)) (ty := .int) rfl (t := 0) rfl (fun _ h9 => h9) hK hH hS (n := 7) (N := 7) (7, .inl (fun _ => 0)) (fun _ => rfl) (show hw_ok D.2.1 G13 15 _ from ⟨_, rfl, fun _ _ => ⟨by decide, by decide⟩⟩) (by decide) (by decide) (by decide) (Nat.le_of_ble_eq_true rfl) (Nat.le_of_ble_eq_true rfl) dX6_init_24 (fun q24 G25 H hH m26 m27 k28 l29 e30 v31 oq hz hS => ?_)
  have w32 : s.heap.size ≤ q24 := by have := hS0.1; omega
  have g33 : ∀ x, x < s.heap.size → G25 x = G x := fun x h9 => (l29 x (Nat.lt_of_lt_of_le h9 hS0.1)).trans (g21 x h9)
  have va := va_at.kept va (oq _ (hw_lt va))
  have k34 := hw_kg2 m27 k22 (by decide)
  have k35 := hw_kg m26 k23 (by decide) (by decide)
  have k36 := hw_kg m26 k16 (by decide) (by decide)
  refine hw_putF (v := .ref q24) (fs' := [.ref q1, .ref q12, .ref q24, .int 0, .null, .null, .null]) hx hb ff_18_5 hnm hK hH va (Nat.le_of_ble_eq_true rfl) rfl rfl rfl (fun _ => by rw [k34]; exact (show hw_ok D.2.1 G25 105 _ from ⟨_, rfl⟩)) hS (hw_AWi2 g33 k34 (by decide)) dX6_init_26 (fun H locs hH va oq hz hS => ?_)
  refine lv_aload_n hx hb dX6_init_29 rfl (lv_at hl 0 rfl) ?_
  refine lv_sipush (v := 896) hx hb dX6_init_30 (by decide) ?_
  have hS0 := hS
  refine hw_newa hx hb 16 (atype := .int) (hts (.arrayClass .int) (by decide +kernel)) (ty := .int) rfl (t := 0) rfl (fun _ h9 => h9) hK hH hS (n := 896) (N := 896) (896, .inl (fun _ => 0)) (fun _ => rfl) (show hw_ok D.2.1 G25 16 _ from ⟨_, rfl⟩) (by decide) (by decide) (by decide) (Nat.le_of_ble_eq_true rfl) (Nat.le_of_ble_eq_true rfl) dX6_init_33 (fun q37 G38 H hH m39 m40 k41 l42 e43 v44 oq hz hS => ?_)
  have w45 : s.heap.size ≤ q37 := by have := hS0.1; omega
  have g46 : ∀ x, x < s.heap.size → G38 x = G x := fun x h9 => (l42 x (Nat.lt_of_lt_of_le h9 hS0.1)).trans (g33 x h9)
  have va := va_at.kept va (oq _ (hw_lt va))
  have k47 := hw_kg2 m40 k34 (by decide)
  have k48 := hw_kg m39 k35 (by decide) (by decide)
  have k49 := hw_kg m39 k36 (by decide) (by decide)
  have k50 := hw_kg m39 k28 (by decide) (by decide)
  refine hw_putF (v := .ref q37) (fs' := [.ref q1, .ref q12, .ref q24, .int 0, .ref q37, .null, .null]) hx hb ff_21_5 hnm hK hH va (Nat.le_of_ble_eq_true rfl) rfl rfl rfl (fun _ => by rw [k47]; exact (show hw_ok D.2.1 G38 105 _ from ⟨_, rfl⟩)) hS (hw_AWi2 g46 k47 (by decide)) dX6_init_35 (fun H locs hH va oq hz hS => ?_)
  refine lv_aload_n hx hb dX6_init_38 rfl (lv_at hl 0 rfl) ?_
  refine lv_sipush (v := 128) hx hb dX6_init_39 (by decide) ?_
  have hS0 := hS
  refine hw_newa hx hb 17 (atype := .int) (hts (.arrayClass .int) (by decide +kernel)) (ty := .int) rfl (t := 0) rfl (fun _ h9 => h9) hK hH hS (n := 128) (N := 128) (128, .inl (fun _ => 0)) (fun _ => rfl) (show hw_ok D.2.1 G38 17 _ from ⟨_, rfl⟩) (by decide) (by decide) (by decide) (Nat.le_of_ble_eq_true rfl) (Nat.le_of_ble_eq_true rfl) dX6_init_42 (fun q51 G52 H hH m53 m54 k55 l56 e57 v58 oq hz hS => ?_)
  have w59 : s.heap.size ≤ q51 := by have := hS0.1; omega
  have g60 : ∀ x, x < s.heap.size → G52 x = G x := fun x h9 => (l56 x (Nat.lt_of_lt_of_le h9 hS0.1)).trans (g46 x h9)
  have va := va_at.kept va (oq _ (hw_lt va))
  have k61 := hw_kg2 m54 k47 (by decide)
  have k62 := hw_kg m53 k48 (by decide) (by decide)
  have k63 := hw_kg m53 k49 (by decide) (by decide)
  have k64 := hw_kg m53 k50 (by decide) (by decide)
  have k65 := hw_kg m53 k41 (by decide) (by decide)
  refine hw_putF (v := .ref q51) (fs' := [.ref q1, .ref q12, .ref q24, .int 0, .ref q37, .ref q51, .null]) hx hb ff_24_5 hnm hK hH va (Nat.le_of_ble_eq_true rfl) rfl rfl rfl (fun _ => by rw [k61]; exact (show hw_ok D.2.1 G52 105 _ from ⟨_, rfl⟩)) hS (hw_AWi2 g60 k61 (by decide)) dX6_init_44 (fun H locs hH va oq hz hS => ?_)
  refine lv_aload_n hx hb dX6_init_47 rfl (lv_at hl 0 rfl) ?_
  refine lv_sipush (v := 128) hx hb dX6_init_48 (by decide) ?_
  have hS0 := hS
  refine hw_newa hx hb 18 (atype := .int) (hts (.arrayClass .int) (by decide +kernel)) (ty := .int) rfl (t := 0) rfl (fun _ h9 => h9) hK hH hS (n := 128) (N := 128) (128, .inl (fun _ => 0)) (fun _ => rfl) (show hw_ok D.2.1 G52 18 _ from ⟨_, rfl⟩) (by decide) (by decide) (by decide) (Nat.le_of_ble_eq_true rfl) (Nat.le_of_ble_eq_true rfl) dX6_init_51 (fun q66 G67 H hH m68 m69 k70 l71 e72 v73 oq hz hS => ?_)
  have w74 : s.heap.size ≤ q66 := by have := hS0.1; omega
  have g75 : ∀ x, x < s.heap.size → G67 x = G x := fun x h9 => (l71 x (Nat.lt_of_lt_of_le h9 hS0.1)).trans (g60 x h9)
  have va := va_at.kept va (oq _ (hw_lt va))
  have k76 := hw_kg2 m69 k61 (by decide)
  have k77 := hw_kg m68 k62 (by decide) (by decide)
  have k78 := hw_kg m68 k63 (by decide) (by decide)
  have k79 := hw_kg m68 k64 (by decide) (by decide)
  have k80 := hw_kg m68 k65 (by decide) (by decide)
  have k81 := hw_kg m68 k55 (by decide) (by decide)
  refine hw_putF (v := .ref q66) (fs' := [.ref q1, .ref q12, .ref q24, .int 0, .ref q37, .ref q51, .ref q66]) hx hb ff_27_5 hnm hK hH va (Nat.le_of_ble_eq_true rfl) rfl rfl rfl (fun _ => by rw [k76]; exact (show hw_ok D.2.1 G67 105 _ from ⟨_, rfl⟩)) hS (hw_AWi2 g75 k76 (by decide)) dX6_init_53 (fun H locs hH va oq hz hS => ?_)
  have R82 : hw_RP G67 (fun i9 => [q1, q12, q24, 0, q37, q51, q66].getD i9 0) := ⟨k77, k78, k79, k80, k81, k70⟩
  obtain ⟨hH9, hm9⟩ := hw_HT.rekind (k := 5) hH (by rw [k76]; decide) va (show hw_OP G67 _ from ⟨(fun i9 => [q1, q12, q24, 0, q37, q51, q66].getD i9 0), 0, rfl, R82⟩)
  refine W.widen (k := 6) (n := 2190) (by first | decide | omega) (by first | decide | omega) ?_
  exact hw_vretM hx hb hr hlocks hQ hS ⟨(va_up G67 h0 5), rfl, hH9, (fun q9 h9 n9 => (va_up_ne _ _ n9).trans (g75 q9 h9)), (va_up_self _ _ _)⟩ dX6_init_56

set_option maxHeartbeats 4000000 in
set_option maxRecDepth 100000 in
theorem k_X7_init (l : Launch) (D : hw_D) (G : Nat → Nat) (h0 : Nat) (sz : Nat) (G0 : G h0 = 106) : Met l yX7_init wsX7_init ({ frames := 1, cells := 1, slots := 24, locals := 12 } : Room) (hw_PC D G [.ref h0] sz (fun H => va_at D.1 vwCl (h0, .inr (6, [.null, .int 0, .int 0])) H)) (hw_QM (fun v H => ∃ (G2 : Nat → Nat) (r2 : Nat → Nat), v = none ∧ hw_HT D G2 H ∧ (∀ q, q < sz → q ≠ h0 → G2 q = G q) ∧ G2 h0 = 6 ∧ hw_RK G2 r2 ∧ va_at D.1 vwCl (h0, .inr (6, hw_LK r2 (-1) 0)) H) (hw_AW G [106] sz)) 1 24 (hw_AW G [106] sz) := by
  refine hw_met (cc := cX7_init) (maxL := 1) (ret := none) (plainFor_of_name (by decide)) rfl (Nat.le_of_ble_eq_true rfl) ?_
  intro p e s m args below meth c QQ ls hsz hx hb hml hr hts hown hlocks hnm hH hK hST hF hQ hl
  subst hsz
  have hS : va_S (hw_AW G [106] s.heap.size) s.heap s.heap [] := va_S.rf
  have va := hF
  have hl : lv_has ls 1 [(0, .ref h0)] := hl
  have u_6 : ∀ w ∈ u_ws RX7 TX7 3, w.before args s = true := fun w hw => hts w ((by decide +kernel : ∀ w ∈ u_ws RX7 TX7 3, w ∈ wsX7_init) w hw)
  have ff_9_6 : hw_FP s args m 9 6 0 true (.array .long) := ⟨RX7, "WardWalkers$Rack", RX7, TX7, 3, tyX7, u_6, hown, rfl, by decide, (hts (.fieldLink RX7 9 "WardWalkers$Rack" "things" "[J") (by decide +kernel)), (fun _ h9 => h9), tyX7_ok, nmX7, rfl, fun _ => rfl, by decide +kernel⟩
  have fp_15_6 : hw_FP s args m 15 6 1 false .int := ⟨RX7, "WardWalkers$Rack", RX7, TX7, 3, tyX7, u_6, hown, rfl, by decide, (hts (.fieldLink RX7 15 "WardWalkers$Rack" "lane" "I") (by decide +kernel)), (fun _ h9 => h9), tyX7_ok, nmX7, rfl, (fun h => by cases h), by decide +kernel⟩
  refine lv_aload_n hx hb dX7_init_0 rfl (lv_at hl 0 rfl) ?_
  refine W.objInit hx hb hown (hts (.methodLink RX7 3 objectInit) (by decide +kernel)) (hts (.instanceMethod objectInit) (by decide +kernel)) (hts (.code objectInit ⟨#[0xb1]⟩ 1 none) (by decide +kernel)) rfl (by rw [hml]; exact hl.1) rfl dX7_init_1 (Nat.le_of_ble_eq_true rfl) (Nat.le_of_ble_eq_true rfl) ?_
  refine W.eq (g2 := F0 m 4 ls []) rfl ?_
  refine lv_aload_n hx hb dX7_init_4 rfl (lv_at hl 0 rfl) ?_
  refine lv_bipush (v := 24) hx hb dX7_init_5 (by decide) ?_
  have hS0 := hS
  refine hw_newa hx hb 19 (atype := .long) (hts (.arrayClass .long) (by decide +kernel)) (ty := .long) rfl (t := 1) rfl (fun _ h9 => h9) hK hH hS (n := 24) (N := 24) (24, .inr (.inl (fun _ => 0))) (fun _ => rfl) (show hw_ok D.2.1 G 19 _ from ⟨_, rfl⟩) (by decide) (by decide) (by decide) (Nat.le_of_ble_eq_true rfl) (Nat.le_of_ble_eq_true rfl) dX7_init_7 (fun q1 G2 H hH m3 m4 k5 l6 e7 v8 oq hz hS => ?_)
  have w9 : s.heap.size ≤ q1 := by have := hS0.1; omega
  have g10 : ∀ x, x < s.heap.size → G2 x = G x := fun x h9 => (l6 x (Nat.lt_of_lt_of_le h9 hS0.1)).trans ((fun _ _ => rfl) x h9)
  have va := va_at.kept va (oq _ (hw_lt va))
  have k11 := hw_kg2 m4 G0 (by decide)
  refine hw_putF (v := .ref q1) (fs' := [.ref q1, .int 0, .int 0]) hx hb ff_9_6 hnm hK hH va (Nat.le_of_ble_eq_true rfl) rfl rfl rfl (fun _ => by rw [k11]; exact (show hw_ok D.2.1 G2 106 _ from ⟨_, rfl⟩)) hS (hw_AWi2 g10 k11 (by decide)) dX7_init_9 (fun H locs hH va oq hz hS => ?_)
  refine lv_aload_n hx hb dX7_init_12 rfl (lv_at hl 0 rfl) ?_
  refine lv_iconst (v := (-1)) hx hb dX7_init_13 (by decide) ?_
  refine hw_put (v := .int (-1)) (fs' := [.ref q1, .int (-1), .int 0]) hx hb fp_15_6 hK hH va (Nat.le_of_ble_eq_true rfl) rfl rfl rfl (fun _ => by rw [k11]; exact (show hw_ok D.2.1 G2 106 _ from ⟨_, rfl⟩)) hS (hw_AWi2 g10 k11 (by decide)) dX7_init_14 (fun H locs hH va oq hz hS => ?_)
  have R12 : hw_RK G2 (fun i9 => [q1, 0, 0].getD i9 0) := k5
  obtain ⟨hH9, hm9⟩ := hw_HT.rekind (k := 6) hH (by rw [k11]; decide) va (show hw_OK G2 _ from ⟨(fun i9 => [q1, 0, 0].getD i9 0), (-1), 0, rfl, R12⟩)
  refine W.widen (k := 1) (n := 24) (by first | decide | omega) (by first | decide | omega) ?_
  exact hw_vretM hx hb hr hlocks hQ hS ⟨(va_up G2 h0 6), (fun i9 => [q1, 0, 0].getD i9 0), rfl, hH9, (fun q9 h9 n9 => (va_up_ne _ _ n9).trans (g10 q9 h9)), (va_up_self _ _ _), (hw_RK_mono hm9 R12), va⟩ dX7_init_17

set_option maxHeartbeats 4000000 in
set_option maxRecDepth 100000 in
theorem k_X9_init (l : Launch) (D : hw_D) (G : Nat → Nat) (h0 : Nat) (sz : Nat) (G0 : G h0 = 107) : Met l yX9_init wsX9_init ({ frames := 1, cells := 4, slots := 20, locals := 12 } : Room) (hw_PC D G [.ref h0] sz (fun H => va_at D.1 vwCl (h0, .inr (8, [.int 0, .int 0, .int 0, .null, .null, .null, .null])) H)) (hw_QM (fun v H => ∃ (G2 : Nat → Nat) (r2 : Nat → Nat), v = none ∧ hw_HT D G2 H ∧ (∀ q, q < sz → q ≠ h0 → G2 q = G q) ∧ G2 h0 = 7 ∧ hw_RS G2 r2 ∧ va_at D.1 vwCl (h0, .inr (8, hw_LS r2 0 0 0)) H) (hw_AW G [107] sz)) 4 20 (hw_AW G [107] sz) := by
  refine hw_met (cc := cX9_init) (maxL := 1) (ret := none) (plainFor_of_name (by decide)) rfl (Nat.le_of_ble_eq_true rfl) ?_
  intro p e s m args below meth c QQ ls hsz hx hb hml hr hts hown hlocks hnm hH hK hST hF hQ hl
  subst hsz
  have hS : va_S (hw_AW G [107] s.heap.size) s.heap s.heap [] := va_S.rf
  have va := hF
  have hl : lv_has ls 1 [(0, .ref h0)] := hl
  have u_8 : ∀ w ∈ u_ws RX9 TX9 7, w.before args s = true := fun w hw => hts w ((by decide +kernel : ∀ w ∈ u_ws RX9 TX9 7, w ∈ wsX9_init) w hw)
  have ff_9_8 : hw_FP s args m 9 8 3 true (.array .int) := ⟨RX9, "WardWalkers$Standing", RX9, TX9, 7, tyX9, u_8, hown, rfl, by decide, (hts (.fieldLink RX9 9 "WardWalkers$Standing" "bent" "[I") (by decide +kernel)), (fun _ h9 => h9), tyX9_ok, nmX9, rfl, fun _ => rfl, by decide +kernel⟩
  have ff_15_8 : hw_FP s args m 15 8 4 true (.array .int) := ⟨RX9, "WardWalkers$Standing", RX9, TX9, 7, tyX9, u_8, hown, rfl, by decide, (hts (.fieldLink RX9 15 "WardWalkers$Standing" "turned" "[I") (by decide +kernel)), (fun _ h9 => h9), tyX9_ok, nmX9, rfl, fun _ => rfl, by decide +kernel⟩
  have ff_18_8 : hw_FP s args m 18 8 5 true (.array .int) := ⟨RX9, "WardWalkers$Standing", RX9, TX9, 7, tyX9, u_8, hown, rfl, by decide, (hts (.fieldLink RX9 18 "WardWalkers$Standing" "places" "[I") (by decide +kernel)), (fun _ h9 => h9), tyX9_ok, nmX9, rfl, fun _ => rfl, by decide +kernel⟩
  have ff_21_8 : hw_FP s args m 21 8 6 true (.array .int) := ⟨RX9, "WardWalkers$Standing", RX9, TX9, 7, tyX9, u_8, hown, rfl, by decide, (hts (.fieldLink RX9 21 "WardWalkers$Standing" "minutes" "[I") (by decide +kernel)), (fun _ h9 => h9), tyX9_ok, nmX9, rfl, fun _ => rfl, by decide +kernel⟩
  refine lv_aload_n hx hb dX9_init_0 rfl (lv_at hl 0 rfl) ?_
  refine W.objInit hx hb hown (hts (.methodLink RX9 3 objectInit) (by decide +kernel)) (hts (.instanceMethod objectInit) (by decide +kernel)) (hts (.code objectInit ⟨#[0xb1]⟩ 1 none) (by decide +kernel)) rfl (by rw [hml]; exact hl.1) rfl dX9_init_1 (Nat.le_of_ble_eq_true rfl) (Nat.le_of_ble_eq_true rfl) ?_
  refine W.eq (g2 := F0 m 4 ls []) rfl ?_
  refine lv_aload_n hx hb dX9_init_4 rfl (lv_at hl 0 rfl) ?_
  refine lv_bipush (v := 7) hx hb dX9_init_5 (by decide) ?_
  have hS0 := hS
  refine hw_newa hx hb 20 (atype := .int) (hts (.arrayClass .int) (by decide +kernel)) (ty := .int) rfl (t := 0) rfl (fun _ h9 => h9) hK hH hS (n := 7) (N := 7) (7, .inl (fun _ => 0)) (fun _ => rfl) (show hw_ok D.2.1 G 20 _ from ⟨_, rfl⟩) (by decide) (by decide) (by decide) (Nat.le_of_ble_eq_true rfl) (Nat.le_of_ble_eq_true rfl) dX9_init_7 (fun q1 G2 H hH m3 m4 k5 l6 e7 v8 oq hz hS => ?_)
  have w9 : s.heap.size ≤ q1 := by have := hS0.1; omega
  have g10 : ∀ x, x < s.heap.size → G2 x = G x := fun x h9 => (l6 x (Nat.lt_of_lt_of_le h9 hS0.1)).trans ((fun _ _ => rfl) x h9)
  have va := va_at.kept va (oq _ (hw_lt va))
  have k11 := hw_kg2 m4 G0 (by decide)
  refine hw_putF (v := .ref q1) (fs' := [.int 0, .int 0, .int 0, .ref q1, .null, .null, .null]) hx hb ff_9_8 hnm hK hH va (Nat.le_of_ble_eq_true rfl) rfl rfl rfl (fun _ => by rw [k11]; exact (show hw_ok D.2.1 G2 107 _ from ⟨_, rfl⟩)) hS (hw_AWi2 g10 k11 (by decide)) dX9_init_9 (fun H locs hH va oq hz hS => ?_)
  refine lv_aload_n hx hb dX9_init_12 rfl (lv_at hl 0 rfl) ?_
  refine lv_bipush (v := 7) hx hb dX9_init_13 (by decide) ?_
  have hS0 := hS
  refine hw_newa hx hb 21 (atype := .int) (hts (.arrayClass .int) (by decide +kernel)) (ty := .int) rfl (t := 0) rfl (fun _ h9 => h9) hK hH hS (n := 7) (N := 7) (7, .inl (fun _ => 0)) (fun _ => rfl) (show hw_ok D.2.1 G2 21 _ from ⟨_, rfl⟩) (by decide) (by decide) (by decide) (Nat.le_of_ble_eq_true rfl) (Nat.le_of_ble_eq_true rfl) dX9_init_15 (fun q12 G13 H hH m14 m15 k16 l17 e18 v19 oq hz hS => ?_)
  have w20 : s.heap.size ≤ q12 := by have := hS0.1; omega
  have g21 : ∀ x, x < s.heap.size → G13 x = G x := fun x h9 => (l17 x (Nat.lt_of_lt_of_le h9 hS0.1)).trans (g10 x h9)
  have va := va_at.kept va (oq _ (hw_lt va))
  have k22 := hw_kg2 m15 k11 (by decide)
  have k23 := hw_kg m14 k5 (by decide) (by decide)
  refine hw_putF (v := .ref q12) (fs' := [.int 0, .int 0, .int 0, .ref q1, .ref q12, .null, .null]) hx hb ff_15_8 hnm hK hH va (Nat.le_of_ble_eq_true rfl) rfl rfl rfl (fun _ => by rw [k22]; exact (show hw_ok D.2.1 G13 107 _ from ⟨_, rfl⟩)) hS (hw_AWi2 g21 k22 (by decide)) dX9_init_17 (fun H locs hH va oq hz hS => ?_)
  refine lv_aload_n hx hb dX9_init_20 rfl (lv_at hl 0 rfl) ?_
  refine lv_iconst (v := 3) hx hb dX9_init_21 (by decide) ?_
  have hS0 := hS
  refine hw_newa hx hb 22 (atype := .int) (hts (.arrayClass .int) (by decide +kernel)) (ty := .int) rfl (t := 0) rfl (fun _ h9 => h9) hK hH hS (n := 3) (N := 3) (3, .inl (fun _ => 0)) (fun _ => rfl) (show hw_ok D.2.1 G13 22 _ from ⟨_, rfl⟩) (by decide) (by decide) (by decide) (Nat.le_of_ble_eq_true rfl) (Nat.le_of_ble_eq_true rfl) dX9_init_22 (fun q24 G25 H hH m26 m27 k28 l29 e30 v31 oq hz hS => ?_)
  have w32 : s.heap.size ≤ q24 := by have := hS0.1; omega
  have g33 : ∀ x, x < s.heap.size → G25 x = G x := fun x h9 => (l29 x (Nat.lt_of_lt_of_le h9 hS0.1)).trans (g21 x h9)
  have va := va_at.kept va (oq _ (hw_lt va))
  have k34 := hw_kg2 m27 k22 (by decide)
  have k35 := hw_kg m26 k23 (by decide) (by decide)
  have k36 := hw_kg m26 k16 (by decide) (by decide)
  refine hw_putF (v := .ref q24) (fs' := [.int 0, .int 0, .int 0, .ref q1, .ref q12, .ref q24, .null]) hx hb ff_18_8 hnm hK hH va (Nat.le_of_ble_eq_true rfl) rfl rfl rfl (fun _ => by rw [k34]; exact (show hw_ok D.2.1 G25 107 _ from ⟨_, rfl⟩)) hS (hw_AWi2 g33 k34 (by decide)) dX9_init_24 (fun H locs hH va oq hz hS => ?_)
  refine lv_aload_n hx hb dX9_init_27 rfl (lv_at hl 0 rfl) ?_
  refine lv_iconst (v := 3) hx hb dX9_init_28 (by decide) ?_
  have hS0 := hS
  refine hw_newa hx hb 23 (atype := .int) (hts (.arrayClass .int) (by decide +kernel)) (ty := .int) rfl (t := 0) rfl (fun _ h9 => h9) hK hH hS (n := 3) (N := 3) (3, .inl (fun _ => 0)) (fun _ => rfl) (show hw_ok D.2.1 G25 23 _ from ⟨_, rfl⟩) (by decide) (by decide) (by decide) (Nat.le_of_ble_eq_true rfl) (Nat.le_of_ble_eq_true rfl) dX9_init_29 (fun q37 G38 H hH m39 m40 k41 l42 e43 v44 oq hz hS => ?_)
  have w45 : s.heap.size ≤ q37 := by have := hS0.1; omega
  have g46 : ∀ x, x < s.heap.size → G38 x = G x := fun x h9 => (l42 x (Nat.lt_of_lt_of_le h9 hS0.1)).trans (g33 x h9)
  have va := va_at.kept va (oq _ (hw_lt va))
  have k47 := hw_kg2 m40 k34 (by decide)
  have k48 := hw_kg m39 k35 (by decide) (by decide)
  have k49 := hw_kg m39 k36 (by decide) (by decide)
  have k50 := hw_kg m39 k28 (by decide) (by decide)
  refine hw_putF (v := .ref q37) (fs' := [.int 0, .int 0, .int 0, .ref q1, .ref q12, .ref q24, .ref q37]) hx hb ff_21_8 hnm hK hH va (Nat.le_of_ble_eq_true rfl) rfl rfl rfl (fun _ => by rw [k47]; exact (show hw_ok D.2.1 G38 107 _ from ⟨_, rfl⟩)) hS (hw_AWi2 g46 k47 (by decide)) dX9_init_31 (fun H locs hH va oq hz hS => ?_)
  have R51 : hw_RS G38 (fun i9 => [0, 0, 0, q1, q12, q24, q37].getD i9 0) := ⟨k48, k49, k50, k41⟩
  obtain ⟨hH9, hm9⟩ := hw_HT.rekind (k := 7) hH (by rw [k47]; decide) va (show hw_OS G38 _ from ⟨(fun i9 => [0, 0, 0, q1, q12, q24, q37].getD i9 0), 0, 0, 0, rfl, R51⟩)
  refine W.widen (k := 4) (n := 20) (by first | decide | omega) (by first | decide | omega) ?_
  exact hw_vretM hx hb hr hlocks hQ hS ⟨(va_up G38 h0 7), (fun i9 => [0, 0, 0, q1, q12, q24, q37].getD i9 0), rfl, hH9, (fun q9 h9 n9 => (va_up_ne _ _ n9).trans (g46 q9 h9)), (va_up_self _ _ _), (hw_RS_mono hm9 R51), va⟩ dX9_init_34

set_option maxHeartbeats 4000000 in
set_option maxRecDepth 100000 in
theorem k_X10_init (l : Launch) (D : hw_D) (G : Nat → Nat) (h0 : Nat) (sz : Nat) (G0 : G h0 = 108) : Met l yX10_init wsX10_init ({ frames := 1, cells := 3, slots := 300, locals := 12 } : Room) (hw_PC D G [.ref h0] sz (fun H => va_at D.1 vwCl (h0, .inr (9, [.null, .int 0, .int 0, .null, .null, .int 0, .int 0, .int 0, .int 0, .int 0])) H)) (hw_QM (fun v H => ∃ (G2 : Nat → Nat) (r2 : Nat → Nat), v = none ∧ hw_HT D G2 H ∧ (∀ q, q < sz → q ≠ h0 → G2 q = G q) ∧ G2 h0 = 8 ∧ hw_RT G2 r2 ∧ va_at D.1 vwCl (h0, .inr (9, hw_LT r2 0 0 0 0 0 0 0)) H) (hw_AW G [108] sz)) 3 300 (hw_AW G [108] sz) := by
  refine hw_met (cc := cX10_init) (maxL := 1) (ret := none) (plainFor_of_name (by decide)) rfl (Nat.le_of_ble_eq_true rfl) ?_
  intro p e s m args below meth c QQ ls hsz hx hb hml hr hts hown hlocks hnm hH hK hST hF hQ hl
  subst hsz
  have hS : va_S (hw_AW G [108] s.heap.size) s.heap s.heap [] := va_S.rf
  have va := hF
  have hl : lv_has ls 1 [(0, .ref h0)] := hl
  have u_9 : ∀ w ∈ u_ws RX10 TX10 10, w.before args s = true := fun w hw => hts w ((by decide +kernel : ∀ w ∈ u_ws RX10 TX10 10, w ∈ wsX10_init) w hw)
  have ff_11_9 : hw_FP s args m 11 9 0 true (.array .int) := ⟨RX10, "WardWalkers$Text", RX10, TX10, 10, tyX10, u_9, hown, rfl, by decide, (hts (.fieldLink RX10 11 "WardWalkers$Text" "letters" "[I") (by decide +kernel)), (fun _ h9 => h9), tyX10_ok, nmX10, rfl, fun _ => rfl, by decide +kernel⟩
  have ff_15_9 : hw_FP s args m 15 9 3 true (.array .int) := ⟨RX10, "WardWalkers$Text", RX10, TX10, 10, tyX10, u_9, hown, rfl, by decide, (hts (.fieldLink RX10 15 "WardWalkers$Text" "words" "[I") (by decide +kernel)), (fun _ h9 => h9), tyX10_ok, nmX10, rfl, fun _ => rfl, by decide +kernel⟩
  have ff_18_9 : hw_FP s args m 18 9 4 true (.array .int) := ⟨RX10, "WardWalkers$Text", RX10, TX10, 10, tyX10, u_9, hown, rfl, by decide, (hts (.fieldLink RX10 18 "WardWalkers$Text" "numbers" "[I") (by decide +kernel)), (fun _ h9 => h9), tyX10_ok, nmX10, rfl, fun _ => rfl, by decide +kernel⟩
  refine lv_aload_n hx hb dX10_init_0 rfl (lv_at hl 0 rfl) ?_
  refine W.objInit hx hb hown (hts (.methodLink RX10 3 objectInit) (by decide +kernel)) (hts (.instanceMethod objectInit) (by decide +kernel)) (hts (.code objectInit ⟨#[0xb1]⟩ 1 none) (by decide +kernel)) rfl (by rw [hml]; exact hl.1) rfl dX10_init_1 (Nat.le_of_ble_eq_true rfl) (Nat.le_of_ble_eq_true rfl) ?_
  refine W.eq (g2 := F0 m 4 ls []) rfl ?_
  refine lv_aload_n hx hb dX10_init_4 rfl (lv_at hl 0 rfl) ?_
  refine lv_sipush (v := 200) hx hb dX10_init_5 (by decide) ?_
  have hS0 := hS
  refine hw_newa hx hb 24 (atype := .int) (hts (.arrayClass .int) (by decide +kernel)) (ty := .int) rfl (t := 0) rfl (fun _ h9 => h9) hK hH hS (n := 200) (N := 200) (200, .inl (fun _ => 0)) (fun _ => rfl) (show hw_ok D.2.1 G 24 _ from ⟨_, rfl⟩) (by decide) (by decide) (by decide) (Nat.le_of_ble_eq_true rfl) (Nat.le_of_ble_eq_true rfl) dX10_init_8 (fun q1 G2 H hH m3 m4 k5 l6 e7 v8 oq hz hS => ?_)
  have w9 : s.heap.size ≤ q1 := by have := hS0.1; omega
  have g10 : ∀ x, x < s.heap.size → G2 x = G x := fun x h9 => (l6 x (Nat.lt_of_lt_of_le h9 hS0.1)).trans ((fun _ _ => rfl) x h9)
  have va := va_at.kept va (oq _ (hw_lt va))
  have k11 := hw_kg2 m4 G0 (by decide)
  refine hw_putF (v := .ref q1) (fs' := [.ref q1, .int 0, .int 0, .null, .null, .int 0, .int 0, .int 0, .int 0, .int 0]) hx hb ff_11_9 hnm hK hH va (Nat.le_of_ble_eq_true rfl) rfl rfl rfl (fun _ => by rw [k11]; exact (show hw_ok D.2.1 G2 108 _ from ⟨_, rfl⟩)) hS (hw_AWi2 g10 k11 (by decide)) dX10_init_10 (fun H locs hH va oq hz hS => ?_)
  refine lv_aload_n hx hb dX10_init_13 rfl (lv_at hl 0 rfl) ?_
  refine lv_bipush (v := 20) hx hb dX10_init_14 (by decide) ?_
  have hS0 := hS
  refine hw_newa hx hb 25 (atype := .int) (hts (.arrayClass .int) (by decide +kernel)) (ty := .int) rfl (t := 0) rfl (fun _ h9 => h9) hK hH hS (n := 20) (N := 20) (20, .inl (fun _ => 0)) (fun _ => rfl) (show hw_ok D.2.1 G2 25 _ from ⟨_, rfl⟩) (by decide) (by decide) (by decide) (Nat.le_of_ble_eq_true rfl) (Nat.le_of_ble_eq_true rfl) dX10_init_16 (fun q12 G13 H hH m14 m15 k16 l17 e18 v19 oq hz hS => ?_)
  have w20 : s.heap.size ≤ q12 := by have := hS0.1; omega
  have g21 : ∀ x, x < s.heap.size → G13 x = G x := fun x h9 => (l17 x (Nat.lt_of_lt_of_le h9 hS0.1)).trans (g10 x h9)
  have va := va_at.kept va (oq _ (hw_lt va))
  have k22 := hw_kg2 m15 k11 (by decide)
  have k23 := hw_kg m14 k5 (by decide) (by decide)
  refine hw_putF (v := .ref q12) (fs' := [.ref q1, .int 0, .int 0, .ref q12, .null, .int 0, .int 0, .int 0, .int 0, .int 0]) hx hb ff_15_9 hnm hK hH va (Nat.le_of_ble_eq_true rfl) rfl rfl rfl (fun _ => by rw [k22]; exact (show hw_ok D.2.1 G13 108 _ from ⟨_, rfl⟩)) hS (hw_AWi2 g21 k22 (by decide)) dX10_init_18 (fun H locs hH va oq hz hS => ?_)
  refine lv_aload_n hx hb dX10_init_21 rfl (lv_at hl 0 rfl) ?_
  refine lv_bipush (v := 80) hx hb dX10_init_22 (by decide) ?_
  have hS0 := hS
  refine hw_newa hx hb 26 (atype := .int) (hts (.arrayClass .int) (by decide +kernel)) (ty := .int) rfl (t := 0) rfl (fun _ h9 => h9) hK hH hS (n := 80) (N := 80) (80, .inl (fun _ => 0)) (fun _ => rfl) (show hw_ok D.2.1 G13 26 _ from ⟨_, rfl⟩) (by decide) (by decide) (by decide) (Nat.le_of_ble_eq_true rfl) (Nat.le_of_ble_eq_true rfl) dX10_init_24 (fun q24 G25 H hH m26 m27 k28 l29 e30 v31 oq hz hS => ?_)
  have w32 : s.heap.size ≤ q24 := by have := hS0.1; omega
  have g33 : ∀ x, x < s.heap.size → G25 x = G x := fun x h9 => (l29 x (Nat.lt_of_lt_of_le h9 hS0.1)).trans (g21 x h9)
  have va := va_at.kept va (oq _ (hw_lt va))
  have k34 := hw_kg2 m27 k22 (by decide)
  have k35 := hw_kg m26 k23 (by decide) (by decide)
  have k36 := hw_kg m26 k16 (by decide) (by decide)
  refine hw_putF (v := .ref q24) (fs' := [.ref q1, .int 0, .int 0, .ref q12, .ref q24, .int 0, .int 0, .int 0, .int 0, .int 0]) hx hb ff_18_9 hnm hK hH va (Nat.le_of_ble_eq_true rfl) rfl rfl rfl (fun _ => by rw [k34]; exact (show hw_ok D.2.1 G25 108 _ from ⟨_, rfl⟩)) hS (hw_AWi2 g33 k34 (by decide)) dX10_init_26 (fun H locs hH va oq hz hS => ?_)
  have R37 : hw_RT G25 (fun i9 => [q1, 0, 0, q12, q24, 0, 0, 0, 0, 0].getD i9 0) := ⟨k35, k36, k28⟩
  obtain ⟨hH9, hm9⟩ := hw_HT.rekind (k := 8) hH (by rw [k34]; decide) va (show hw_OT G25 _ from ⟨(fun i9 => [q1, 0, 0, q12, q24, 0, 0, 0, 0, 0].getD i9 0), 0, 0, 0, 0, 0, 0, 0, rfl, R37, ⟨by decide, by decide⟩, ⟨by decide, by decide⟩, ⟨by decide, by decide⟩, ⟨by decide, by decide⟩⟩)
  refine W.widen (k := 3) (n := 300) (by first | decide | omega) (by first | decide | omega) ?_
  exact hw_vretM hx hb hr hlocks hQ hS ⟨(va_up G25 h0 8), (fun i9 => [q1, 0, 0, q12, q24, 0, 0, 0, 0, 0].getD i9 0), rfl, hH9, (fun q9 h9 n9 => (va_up_ne _ _ n9).trans (g33 q9 h9)), (va_up_self _ _ _), (hw_RT_mono hm9 R37), va⟩ dX10_init_29
