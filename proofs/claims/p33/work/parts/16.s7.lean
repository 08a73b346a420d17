set_option maxHeartbeats 4000000 in
set_option maxRecDepth 100000 in
theorem k_X3_init (l : Launch) (D : hw_D) (G : Nat → Nat) (h0 : Nat) (p1 : Int32) (p2 : Int32) (sz : Nat) (G0 : G h0 = 103) (ci_a : Nat) (hci : ci_a = 0 ∨ ci_a = 2 ∨ ci_a = 4 ∨ ci_a = 7) : Met l yX3_init wsX3_init ({ frames := 1, cells := 0, slots := 0, locals := 12 } : Room) (hw_PC D G [.ref h0, .int p1, .int p2] sz (fun H => va_at D.1 vwCl (h0, .inr (ci_a, [.int 0, .int 0])) H)) (hw_QM (fun v H => ∃ (G2 : Nat → Nat), v = none ∧ hw_HT D G2 H ∧ (∀ q, q < sz → q ≠ h0 → G2 q = G q) ∧ G2 h0 = 3) (hw_AW G [103] sz)) 0 0 (hw_AW G [103] sz) := by
  refine hw_met (cc := cX3_init) (maxL := 3) (ret := none) (plainFor_of_name (by decide)) rfl (Nat.le_of_ble_eq_true rfl) ?_
  intro p e s m args below meth c QQ ls hsz hx hb hml hr hts hown hlocks hnm hH hK hST hF hQ hl
  subst hsz
  have hS : va_S (hw_AW G [103] s.heap.size) s.heap s.heap [] := va_S.rf
  have va := hF
  have hl : lv_has ls 3 [(0, .ref h0), (1, .int p1), (2, .int p2)] := hl
  have u_0 : ∀ w ∈ u_ws RX0 TX0 2, w.before args s = true := fun w hw => hts w ((by decide +kernel : ∀ w ∈ u_ws RX0 TX0 2, w ∈ wsX3_init) w hw)
  have ff_9_0 : hw_FP s args m 9 0 0 true .int := ⟨RX3, "WardWalkers$Key", RX0, TX0, 2, tyX0, u_0, hown, rfl, by decide, (hts (.fieldLink RX3 9 "WardWalkers$Key" "cut" "I") (by decide +kernel)), (fun _ h9 => h9), tyX0_ok, nmX0, rfl, fun _ => rfl, by decide +kernel⟩
  have ff_15_0 : hw_FP s args m 15 0 1 true .int := ⟨RX3, "WardWalkers$Key", RX0, TX0, 2, tyX0, u_0, hown, rfl, by decide, (hts (.fieldLink RX3 15 "WardWalkers$Key" "mark" "I") (by decide +kernel)), (fun _ h9 => h9), tyX0_ok, nmX0, rfl, fun _ => rfl, by decide +kernel⟩
  have u_2 : ∀ w ∈ u_ws RX2 TX2 2, w.before args s = true := fun w hw => hts w ((by decide +kernel : ∀ w ∈ u_ws RX2 TX2 2, w ∈ wsX3_init) w hw)
  have ff_9_2 : hw_FP s args m 9 2 0 true .int := ⟨RX3, "WardWalkers$Key", RX2, TX2, 2, tyX2, u_2, hown, rfl, by decide, (hts (.fieldLink RX3 9 "WardWalkers$Key" "cut" "I") (by decide +kernel)), (fun _ h9 => h9), tyX2_ok, nmX2, rfl, fun _ => rfl, by decide +kernel⟩
  have ff_15_2 : hw_FP s args m 15 2 1 true .int := ⟨RX3, "WardWalkers$Key", RX2, TX2, 2, tyX2, u_2, hown, rfl, by decide, (hts (.fieldLink RX3 15 "WardWalkers$Key" "mark" "I") (by decide +kernel)), (fun _ h9 => h9), tyX2_ok, nmX2, rfl, fun _ => rfl, by decide +kernel⟩
  have u_4 : ∀ w ∈ u_ws RX5 TX5 2, w.before args s = true := fun w hw => hts w ((by decide +kernel : ∀ w ∈ u_ws RX5 TX5 2, w ∈ wsX3_init) w hw)
  have ff_9_4 : hw_FP s args m 9 4 0 true .int := ⟨RX3, "WardWalkers$Key", RX5, TX5, 2, tyX5, u_4, hown, rfl, by decide, (hts (.fieldLink RX3 9 "WardWalkers$Key" "cut" "I") (by decide +kernel)), (fun _ h9 => h9), tyX5_ok, nmX5, rfl, fun _ => rfl, by decide +kernel⟩
  have ff_15_4 : hw_FP s args m 15 4 1 true .int := ⟨RX3, "WardWalkers$Key", RX5, TX5, 2, tyX5, u_4, hown, rfl, by decide, (hts (.fieldLink RX3 15 "WardWalkers$Key" "mark" "I") (by decide +kernel)), (fun _ h9 => h9), tyX5_ok, nmX5, rfl, fun _ => rfl, by decide +kernel⟩
  have u_7 : ∀ w ∈ u_ws RX8 TX8 2, w.before args s = true := fun w hw => hts w ((by decide +kernel : ∀ w ∈ u_ws RX8 TX8 2, w ∈ wsX3_init) w hw)
  have ff_9_7 : hw_FP s args m 9 7 0 true .int := ⟨RX3, "WardWalkers$Key", RX8, TX8, 2, tyX8, u_7, hown, rfl, by decide, (hts (.fieldLink RX3 9 "WardWalkers$Key" "cut" "I") (by decide +kernel)), (fun _ h9 => h9), tyX8_ok, nmX8, rfl, fun _ => rfl, by decide +kernel⟩
  have ff_15_7 : hw_FP s args m 15 7 1 true .int := ⟨RX3, "WardWalkers$Key", RX8, TX8, 2, tyX8, u_7, hown, rfl, by decide, (hts (.fieldLink RX3 15 "WardWalkers$Key" "mark" "I") (by decide +kernel)), (fun _ h9 => h9), tyX8_ok, nmX8, rfl, fun _ => rfl, by decide +kernel⟩
  rcases hci with rfl | rfl | rfl | rfl
  · refine lv_aload_n hx hb dX3_init_0 rfl (lv_at hl 0 rfl) ?_
    refine W.objInit hx hb hown (hts (.methodLink RX3 3 objectInit) (by decide +kernel)) (hts (.instanceMethod objectInit) (by decide +kernel)) (hts (.code objectInit ⟨#[0xb1]⟩ 1 none) (by decide +kernel)) rfl (by rw [hml]; exact hl.1) rfl dX3_init_1 (Nat.le_of_ble_eq_true rfl) (Nat.le_of_ble_eq_true rfl) ?_
    refine W.eq (g2 := F0 m 4 ls []) rfl ?_
    refine lv_aload_n hx hb dX3_init_4 rfl (lv_at hl 0 rfl) ?_
    refine lv_iload_n hx hb dX3_init_5 rfl (lv_at hl 1 rfl) ?_
    refine hw_putF (v := .int p1) (fs' := [.int p1, .int 0]) hx hb ff_9_0 hnm hK hH va (Nat.le_of_ble_eq_true rfl) rfl rfl rfl (fun _ => by rw [G0]; exact (show hw_ok D.2.1 G 103 _ from ⟨0, _, by decide, rfl⟩)) hS (hw_AWi G0 (by decide)) dX3_init_6 (fun H locs hH va oq hz hS => ?_)
    refine lv_aload_n hx hb dX3_init_9 rfl (lv_at hl 0 rfl) ?_
    refine lv_iload_n hx hb dX3_init_10 rfl (lv_at hl 2 rfl) ?_
    refine hw_putF (v := .int p2) (fs' := [.int p1, .int p2]) hx hb ff_15_0 hnm hK hH va (Nat.le_of_ble_eq_true rfl) rfl rfl rfl (fun _ => by rw [G0]; exact (show hw_ok D.2.1 G 103 _ from ⟨0, _, by decide, rfl⟩)) hS (hw_AWi G0 (by decide)) dX3_init_11 (fun H locs hH va oq hz hS => ?_)
    obtain ⟨hH9, hm9⟩ := hw_HT.rekind (k := 3) hH (by rw [G0]; decide) va (show hw_OKey _ from ⟨_, _, Or.inl rfl⟩)
    refine W.widen (k := 0) (n := 0) (by first | decide | omega) (by first | decide | omega) ?_
    exact hw_vretM hx hb hr hlocks hQ hS ⟨(va_up G h0 3), rfl, hH9, (fun q9 h9 n9 => (va_up_ne _ _ n9).trans ((fun _ _ => rfl) q9 h9)), (va_up_self _ _ _)⟩ dX3_init_14
  · refine lv_aload_n hx hb dX3_init_0 rfl (lv_at hl 0 rfl) ?_
    refine W.objInit hx hb hown (hts (.methodLink RX3 3 objectInit) (by decide +kernel)) (hts (.instanceMethod objectInit) (by decide +kernel)) (hts (.code objectInit ⟨#[0xb1]⟩ 1 none) (by decide +kernel)) rfl (by rw [hml]; exact hl.1) rfl dX3_init_1 (Nat.le_of_ble_eq_true rfl) (Nat.le_of_ble_eq_true rfl) ?_
    refine W.eq (g2 := F0 m 4 ls []) rfl ?_
    refine lv_aload_n hx hb dX3_init_4 rfl (lv_at hl 0 rfl) ?_
    refine lv_iload_n hx hb dX3_init_5 rfl (lv_at hl 1 rfl) ?_
    refine hw_putF (v := .int p1) (fs' := [.int p1, .int 0]) hx hb ff_9_2 hnm hK hH va (Nat.le_of_ble_eq_true rfl) rfl rfl rfl (fun _ => by rw [G0]; exact (show hw_ok D.2.1 G 103 _ from ⟨2, _, by decide, rfl⟩)) hS (hw_AWi G0 (by decide)) dX3_init_6 (fun H locs hH va oq hz hS => ?_)
    refine lv_aload_n hx hb dX3_init_9 rfl (lv_at hl 0 rfl) ?_
    refine lv_iload_n hx hb dX3_init_10 rfl (lv_at hl 2 rfl) ?_
    refine hw_putF (v := .int p2) (fs' := [.int p1, .int p2]) hx hb ff_15_2 hnm hK hH va (Nat.le_of_ble_eq_true rfl) rfl rfl rfl (fun _ => by rw [G0]; exact (show hw_ok D.2.1 G 103 _ from ⟨2, _, by decide, rfl⟩)) hS (hw_AWi G0 (by decide)) dX3_init_11 (fun H locs hH va oq hz hS => ?_)
    obtain ⟨hH9, hm9⟩ := hw_HT.rekind (k := 3) hH (by rw [G0]; decide) va (show hw_OKey _ from ⟨_, _, Or.inr (Or.inl rfl)⟩)
    refine W.widen (k := 0) (n := 0) (by first | decide | omega) (by first | decide | omega) ?_
    exact hw_vretM hx hb hr hlocks hQ hS ⟨(va_up G h0 3), rfl, hH9, (fun q9 h9 n9 => (va_up_ne _ _ n9).trans ((fun _ _ => rfl) q9 h9)), (va_up_self _ _ _)⟩ dX3_init_14
  · refine lv_aload_n hx hb dX3_init_0 rfl (lv_at hl 0 rfl) ?_
    refine W.objInit hx hb hown (hts (.methodLink RX3 3 objectInit) (by decide +kernel)) (hts (.instanceMethod objectInit) (by decide +kernel)) (hts (.code objectInit ⟨#[0xb1]⟩ 1 none) (by decide +kernel)) rfl (by rw [hml]; exact hl.1) rfl dX3_init_1 (Nat.le_of_ble_eq_true rfl) (Nat.le_of_ble_eq_true rfl) ?_
    refine W.eq (g2 := F0 m 4 ls []) rfl ?_
    refine lv_aload_n hx hb dX3_init_4 rfl (lv_at hl 0 rfl) ?_
    refine lv_iload_n hx hb dX3_init_5 rfl (lv_at hl 1 rfl) ?_
    refine hw_putF (v := .int p1) (fs' := [.int p1, .int 0]) hx hb ff_9_4 hnm hK hH va (Nat.le_of_ble_eq_true rfl) rfl rfl rfl (fun _ => by rw [G0]; exact (show hw_ok D.2.1 G 103 _ from ⟨4, _, by decide, rfl⟩)) hS (hw_AWi G0 (by decide)) dX3_init_6 (fun H locs hH va oq hz hS => ?_)
    refine lv_aload_n hx hb dX3_init_9 rfl (lv_at hl 0 rfl) ?_
    refine lv_iload_n hx hb dX3_init_10 rfl (lv_at hl 2 rfl) ?_
    refine hw_putF (v := .int p2) (fs' := [.int p1, .int p2]) hx hb ff_15_4 hnm hK hH va (Nat.le_of_ble_eq_true rfl) rfl rfl rfl (fun _ => by rw [G0]; exact (show hw_ok D.2.1 G 103 _ from ⟨4, _, by decide, rfl⟩)) hS (hw_AWi G0 (by decide)) dX3_init_11 (fun H locs hH va oq hz hS => ?_)
    obtain ⟨hH9, hm9⟩ := hw_HT.rekind (k := 3) hH (by rw [G0]; decide) va (show hw_OKey _ from ⟨_, _, Or.inr (Or.inr (Or.inl rfl))⟩)
    refine W.widen (k := 0) (n := 0) (by first | decide | omega) (by first | decide | omega) ?_
    exact hw_vretM hx hb hr hlocks hQ hS ⟨(va_up G h0 3), rfl, hH9, (fun q9 h9 n9 => (va_up_ne _ _ n9).trans ((fun _ _ => rfl) q9 h9)), (va_up_self _ _ _)⟩ dX3_init_14
  · refine lv_aload_n hx hb dX3_init_0 rfl (lv_at hl 0 rfl) ?_
    refine W.objInit hx hb hown (hts (.methodLink RX3 3 objectInit) (by decide +kernel)) (hts (.instanceMethod objectInit) (by decide +kernel)) (hts (.code objectInit ⟨#[0xb1]⟩ 1 none) (by decide +kernel)) rfl (by rw [hml]; exact hl.1) rfl dX3_init_1 (Nat.le_of_ble_eq_true rfl) (Nat.le_of_ble_eq_true rfl) ?_
    refine W.eq (g2 := F0 m 4 ls []) rfl ?_
    refine lv_aload_n hx hb dX3_init_4 rfl (lv_at hl 0 rfl) ?_
    refine lv_iload_n hx hb dX3_init_5 rfl (lv_at hl 1 rfl) ?_
    refine hw_putF (v := .int p1) (fs' := [.int p1, .int 0]) hx hb ff_9_7 hnm hK hH va (Nat.le_of_ble_eq_true rfl) rfl rfl rfl (fun _ => by rw [G0]; exact (show hw_ok D.2.1 G 103 _ from ⟨7, _, by decide, rfl⟩)) hS (hw_AWi G0 (by decide)) dX3_init_6 (fun H locs hH va oq hz hS => ?_)
    refine lv_aload_n hx hb dX3_init_9 rfl (lv_at hl 0 rfl) ?_
    refine lv_iload_n hx hb dX3_init_10 rfl (lv_at hl 2 rfl) ?_
    refine hw_putF (v := .int p2) (fs' := [.int p1, .int p2]) hx hb ff_15_7 hnm hK hH va (Nat.le_of_ble_eq_true rfl) rfl rfl rfl (fun _ => by rw [G0]; exact (show hw_ok D.2.1 G 103 _ from ⟨7, _, by decide, rfl⟩)) hS (hw_AWi G0 (by decide)) dX3_init_11 (fun H locs hH va oq hz hS => ?_)
    obtain ⟨hH9, hm9⟩ := hw_HT.rekind (k := 3) hH (by rw [G0]; decide) va (show hw_OKey _ from ⟨_, _, Or.inr (Or.inr (Or.inr rfl))⟩)
    refine W.widen (k := 0) (n := 0) (by first | decide | omega) (by first | decide | omega) ?_
    exact hw_vretM hx hb hr hlocks hQ hS ⟨(va_up G h0 3), rfl, hH9, (fun q9 h9 n9 => (va_up_ne _ _ n9).trans ((fun _ _ => rfl) q9 h9)), (va_up_self _ _ _)⟩ dX3_init_14

set_option maxHeartbeats 4000000 in
set_option maxRecDepth 100000 in
theorem k_X0_init (l : Launch) (D : hw_D) (G : Nat → Nat) (h0 : Nat) (p1 : Int32) (p2 : Int32) (sz : Nat) (G0 : G h0 = 103) (ci_a : Nat) (hci : ci_a = 0 ∨ ci_a = 4 ∨ ci_a = 7) : Met l yX0_init wsX0_init ({ frames := 2, cells := 0, slots := 0, locals := 34 } : Room) (hw_PC D G [.ref h0, .int p1, .int p2] sz (fun H => va_at D.1 vwCl (h0, .inr (ci_a, [.int 0, .int 0])) H)) (hw_QM (fun v H => ∃ (G2 : Nat → Nat), v = none ∧ hw_HT D G2 H ∧ (∀ q, q < sz → q ≠ h0 → G2 q = G q) ∧ G2 h0 = 3) (hw_AW G [103] sz)) 0 0 (hw_AW G [103] sz) := by
  refine hw_met (cc := cX0_init) (maxL := 3) (ret := none) (plainFor_of_name (by decide)) rfl (Nat.le_of_ble_eq_true rfl) ?_
  intro p e s m args below meth c QQ ls hsz hx hb hml hr hts hown hlocks hnm hH hK hST hF hQ hl
  subst hsz
  have hS : va_S (hw_AW G [103] s.heap.size) s.heap s.heap [] := va_S.rf
  have va := hF
  have hl : lv_has ls 3 [(0, .ref h0), (1, .int p1), (2, .int p2)] := hl
  have hHs := hH
  rcases hci with rfl | rfl | rfl
  · refine lv_aload_n hx hb dX0_init_0 rfl (lv_at hl 0 rfl) ?_
    refine lv_iload_n hx hb dX0_init_1 rfl (lv_at hl 1 rfl) ?_
    refine lv_iload_n hx hb dX0_init_2 rfl (lv_at hl 2 rfl) ?_
    have hHo := hH
    have hS0 := hS
    refine hw_cM (va_runI (As := [.int p1, .int p2]) (rest := []) ⟨hx, hb, hml, hown, hts⟩ (k_X3_init l D G h0 p1 p2 _ G0 0 (by decide)) (cwI 2 hts gX0_init_X3_init rfl rfl rfl (hts (.initialized RX3) (by decide +kernel)) (hts (.methodLink RX0 1 yX3_init) (by decide +kernel)) (hts (.instanceMethod yX3_init) (by decide +kernel)) rfl (by decide +kernel) ⟨Nat.le_of_ble_eq_true rfl, Nat.le_of_ble_eq_true rfl⟩) (hw_pS hH hK hST hS (by decide) (fun _ h => Or.inl h) va) rfl rfl hl.1 rfl (lv_room (Nat.le_of_ble_eq_true rfl)) dX0_init_3 ⟨Nat.le_of_ble_eq_true rfl, Nat.le_of_ble_eq_true rfl⟩) hS (hw_AWsub (by decide) (fun _ _ => rfl) hS.1) (fun v H locs hp hz hk hS => ?_)
    obtain ⟨G1, rfl, hH, i2, k3⟩ := hp
    refine W.widen (k := 0) (n := 0) (by first | decide | omega) (by first | decide | omega) ?_
    exact hw_vretM hx hb hr hlocks hQ hS ⟨G1, rfl, hH, i2, k3⟩ dX0_init_6
  · refine lv_aload_n hx hb dX0_init_0 rfl (lv_at hl 0 rfl) ?_
    refine lv_iload_n hx hb dX0_init_1 rfl (lv_at hl 1 rfl) ?_
    refine lv_iload_n hx hb dX0_init_2 rfl (lv_at hl 2 rfl) ?_
    have hHo := hH
    have hS0 := hS
    refine hw_cM (va_runI (As := [.int p1, .int p2]) (rest := []) ⟨hx, hb, hml, hown, hts⟩ (k_X3_init l D G h0 p1 p2 _ G0 4 (by decide)) (cwI 2 hts gX0_init_X3_init rfl rfl rfl (hts (.initialized RX3) (by decide +kernel)) (hts (.methodLink RX0 1 yX3_init) (by decide +kernel)) (hts (.instanceMethod yX3_init) (by decide +kernel)) rfl (by decide +kernel) ⟨Nat.le_of_ble_eq_true rfl, Nat.le_of_ble_eq_true rfl⟩) (hw_pS hH hK hST hS (by decide) (fun _ h => Or.inl h) va) rfl rfl hl.1 rfl (lv_room (Nat.le_of_ble_eq_true rfl)) dX0_init_3 ⟨Nat.le_of_ble_eq_true rfl, Nat.le_of_ble_eq_true rfl⟩) hS (hw_AWsub (by decide) (fun _ _ => rfl) hS.1) (fun v H locs hp hz hk hS => ?_)
    obtain ⟨G4, rfl, hH, i5, k6⟩ := hp
    refine W.widen (k := 0) (n := 0) (by first | decide | omega) (by first | decide | omega) ?_
    exact hw_vretM hx hb hr hlocks hQ hS ⟨G4, rfl, hH, i5, k6⟩ dX0_init_6
  · refine lv_aload_n hx hb dX0_init_0 rfl (lv_at hl 0 rfl) ?_
    refine lv_iload_n hx hb dX0_init_1 rfl (lv_at hl 1 rfl) ?_
    refine lv_iload_n hx hb dX0_init_2 rfl (lv_at hl 2 rfl) ?_
    have hHo := hH
    have hS0 := hS
    refine hw_cM (va_runI (As := [.int p1, .int p2]) (rest := []) ⟨hx, hb, hml, hown, hts⟩ (k_X3_init l D G h0 p1 p2 _ G0 7 (by decide)) (cwI 2 hts gX0_init_X3_init rfl rfl rfl (hts (.initialized RX3) (by decide +kernel)) (hts (.methodLink RX0 1 yX3_init) (by decide +kernel)) (hts (.instanceMethod yX3_init) (by decide +kernel)) rfl (by decide +kernel) ⟨Nat.le_of_ble_eq_true rfl, Nat.le_of_ble_eq_true rfl⟩) (hw_pS hH hK hST hS (by decide) (fun _ h => Or.inl h) va) rfl rfl hl.1 rfl (lv_room (Nat.le_of_ble_eq_true rfl)) dX0_init_3 ⟨Nat.le_of_ble_eq_true rfl, Nat.le_of_ble_eq_true rfl⟩) hS (hw_AWsub (by decide) (fun _ _ => rfl) hS.1) (fun v H locs hp hz hk hS => ?_)
    obtain ⟨G7, rfl, hH, i8, k9⟩ := hp
    refine W.widen (k := 0) (n := 0) (by first | decide | omega) (by first | decide | omega) ?_
    exact hw_vretM hx hb hr hlocks hQ hS ⟨G7, rfl, hH, i8, k9⟩ dX0_init_6

set_option maxHeartbeats 4000000 in
set_option maxRecDepth 100000 in
theorem k_X2_init (l : Launch) (D : hw_D) (G : Nat → Nat) (h0 : Nat) (p1 : Int32) (p2 : Int32) (sz : Nat) (G0 : G h0 = 103) (ci_a : Nat) (hci : ci_a = 2) : Met l yX2_init wsX2_init ({ frames := 2, cells := 0, slots := 0, locals := 34 } : Room) (hw_PC D G [.ref h0, .int p1, .int p2] sz (fun H => va_at D.1 vwCl (h0, .inr (ci_a, [.int 0, .int 0])) H)) (hw_QM (fun v H => ∃ (G2 : Nat → Nat), v = none ∧ hw_HT D G2 H ∧ (∀ q, q < sz → q ≠ h0 → G2 q = G q) ∧ G2 h0 = 3) (hw_AW G [103] sz)) 0 0 (hw_AW G [103] sz) := by
  refine hw_met (cc := cX2_init) (maxL := 3) (ret := none) (plainFor_of_name (by decide)) rfl (Nat.le_of_ble_eq_true rfl) ?_
  intro p e s m args below meth c QQ ls hsz hx hb hml hr hts hown hlocks hnm hH hK hST hF hQ hl
  subst hsz
  have hS : va_S (hw_AW G [103] s.heap.size) s.heap s.heap [] := va_S.rf
  have va := hF
  have hl : lv_has ls 3 [(0, .ref h0), (1, .int p1), (2, .int p2)] := hl
  have hHs := hH
  rcases hci with rfl
  refine lv_aload_n hx hb dX2_init_0 rfl (lv_at hl 0 rfl) ?_
  refine lv_iload_n hx hb dX2_init_1 rfl (lv_at hl 1 rfl) ?_
  refine lv_iload_n hx hb dX2_init_2 rfl (lv_at hl 2 rfl) ?_
  have hHo := hH
  have hS0 := hS
  refine hw_cM (va_runI (As := [.int p1, .int p2]) (rest := []) ⟨hx, hb, hml, hown, hts⟩ (k_X3_init l D G h0 p1 p2 _ G0 2 (by decide)) (cwI 2 hts gX2_init_X3_init rfl rfl rfl (hts (.initialized RX3) (by decide +kernel)) (hts (.methodLink RX2 3 yX3_init) (by decide +kernel)) (hts (.instanceMethod yX3_init) (by decide +kernel)) rfl (by decide +kernel) ⟨Nat.le_of_ble_eq_true rfl, Nat.le_of_ble_eq_true rfl⟩) (hw_pS hH hK hST hS (by decide) (fun _ h => Or.inl h) va) rfl rfl hl.1 rfl (lv_room (Nat.le_of_ble_eq_true rfl)) dX2_init_3 ⟨Nat.le_of_ble_eq_true rfl, Nat.le_of_ble_eq_true rfl⟩) hS (hw_AWsub (by decide) (fun _ _ => rfl) hS.1) (fun v H locs hp hz hk hS => ?_)
  obtain ⟨G1, rfl, hH, i2, k3⟩ := hp
  refine W.widen (k := 0) (n := 0) (by first | decide | omega) (by first | decide | omega) ?_
  exact hw_vretM hx hb hr hlocks hQ hS ⟨G1, rfl, hH, i2, k3⟩ dX2_init_6

set_option maxHeartbeats 4000000 in
set_option maxRecDepth 100000 in
theorem k_X5_init (l : Launch) (D : hw_D) (G : Nat → Nat) (h0 : Nat) (p1 : Int32) (sz : Nat) (G0 : G h0 = 103) (ci_a : Nat) (hci : ci_a = 4) : Met l yX5_init wsX5_init ({ frames := 3, cells := 0, slots := 0, locals := 56 } : Room) (hw_PC D G [.ref h0, .int p1] sz (fun H => va_at D.1 vwCl (h0, .inr (ci_a, [.int 0, .int 0])) H)) (hw_QM (fun v H => ∃ (G2 : Nat → Nat), v = none ∧ hw_HT D G2 H ∧ (∀ q, q < sz → q ≠ h0 → G2 q = G q) ∧ G2 h0 = 3) (hw_AW G [103] sz)) 0 0 (hw_AW G [103] sz) := by
  refine hw_met (cc := cX5_init) (maxL := 2) (ret := none) (plainFor_of_name (by decide)) rfl (Nat.le_of_ble_eq_true rfl) ?_
  intro p e s m args below meth c QQ ls hsz hx hb hml hr hts hown hlocks hnm hH hK hST hF hQ hl
  subst hsz
  have hS : va_S (hw_AW G [103] s.heap.size) s.heap s.heap [] := va_S.rf
  have va := hF
  have hl : lv_has ls 2 [(0, .ref h0), (1, .int p1)] := hl
  have hHs := hH
  rcases hci with rfl
  refine lv_aload_n hx hb dX5_init_0 rfl (lv_at hl 0 rfl) ?_
  refine lv_iload_n hx hb dX5_init_1 rfl (lv_at hl 1 rfl) ?_
  refine lv_iconst (v := 0) hx hb dX5_init_2 (by decide) ?_
  have hHo := hH
  have hS0 := hS
  refine hw_cM (va_runI (As := [.int p1, .int 0]) (rest := []) ⟨hx, hb, hml, hown, hts⟩ (k_X0_init l D G h0 p1 0 _ G0 4 (by decide)) (cwI 2 hts gX5_init_X0_init rfl rfl rfl (hts (.initialized RX0) (by decide +kernel)) (hts (.methodLink RX5 3 yX0_init) (by decide +kernel)) (hts (.instanceMethod yX0_init) (by decide +kernel)) rfl (by decide +kernel) ⟨Nat.le_of_ble_eq_true rfl, Nat.le_of_ble_eq_true rfl⟩) (hw_pS hH hK hST hS (by decide) (fun _ h => Or.inl h) va) rfl rfl hl.1 rfl (lv_room (Nat.le_of_ble_eq_true rfl)) dX5_init_3 ⟨Nat.le_of_ble_eq_true rfl, Nat.le_of_ble_eq_true rfl⟩) hS (hw_AWsub (by decide) (fun _ _ => rfl) hS.1) (fun v H locs hp hz hk hS => ?_)
  obtain ⟨G1, rfl, hH, i2, k3⟩ := hp
  refine W.widen (k := 0) (n := 0) (by first | decide | omega) (by first | decide | omega) ?_
  exact hw_vretM hx hb hr hlocks hQ hS ⟨G1, rfl, hH, i2, k3⟩ dX5_init_6

set_option maxHeartbeats 4000000 in
set_option maxRecDepth 100000 in
theorem k_X8_init (l : Launch) (D : hw_D) (G : Nat → Nat) (h0 : Nat) (p1 : Int32) (p2 : Int32) (sz : Nat) (G0 : G h0 = 103) (ci_a : Nat) (hci : ci_a = 7) : Met l yX8_init wsX8_init ({ frames := 3, cells := 0, slots := 0, locals := 56 } : Room) (hw_PC D G [.ref h0, .int p1, .int p2] sz (fun H => va_at D.1 vwCl (h0, .inr (ci_a, [.int 0, .int 0])) H)) (hw_QM (fun v H => ∃ (G2 : Nat → Nat), v = none ∧ hw_HT D G2 H ∧ (∀ q, q < sz → q ≠ h0 → G2 q = G q) ∧ G2 h0 = 3) (hw_AW G [103] sz)) 0 0 (hw_AW G [103] sz) := by
  refine hw_met (cc := cX8_init) (maxL := 3) (ret := none) (plainFor_of_name (by decide)) rfl (Nat.le_of_ble_eq_true rfl) ?_
  intro p e s m args below meth c QQ ls hsz hx hb hml hr hts hown hlocks hnm hH hK hST hF hQ hl
  subst hsz
  have hS : va_S (hw_AW G [103] s.heap.size) s.heap s.heap [] := va_S.rf
  have va := hF
  have hl : lv_has ls 3 [(0, .ref h0), (1, .int p1), (2, .int p2)] := hl
  have hHs := hH
  rcases hci with rfl
  refine lv_aload_n hx hb dX8_init_0 rfl (lv_at hl 0 rfl) ?_
  refine lv_iload_n hx hb dX8_init_1 rfl (lv_at hl 1 rfl) ?_
  refine lv_iload_n hx hb dX8_init_2 rfl (lv_at hl 2 rfl) ?_
  have hHo := hH
  have hS0 := hS
  refine hw_cM (va_runI (As := [.int p1, .int p2]) (rest := []) ⟨hx, hb, hml, hown, hts⟩ (k_X0_init l D G h0 p1 p2 _ G0 7 (by decide)) (cwI 2 hts gX8_init_X0_init rfl rfl rfl (hts (.initialized RX0) (by decide +kernel)) (hts (.methodLink RX8 3 yX0_init) (by decide +kernel)) (hts (.instanceMethod yX0_init) (by decide +kernel)) rfl (by decide +kernel) ⟨Nat.le_of_ble_eq_true rfl, Nat.le_of_ble_eq_true rfl⟩) (hw_pS hH hK hST hS (by decide) (fun _ h => Or.inl h) va) rfl rfl hl.1 rfl (lv_room (Nat.le_of_ble_eq_true rfl)) dX8_init_3 ⟨Nat.le_of_ble_eq_true rfl, Nat.le_of_ble_eq_true rfl⟩) hS (hw_AWsub (by decide) (fun _ _ => rfl) hS.1) (fun v H locs hp hz hk hS => ?_)
  obtain ⟨G1, rfl, hH, i2, k3⟩ := hp
  refine W.widen (k := 0) (n := 0) (by first | decide | omega) (by first | decide | omega) ?_
  exact hw_vretM hx hb hr hlocks hQ hS ⟨G1, rfl, hH, i2, k3⟩ dX8_init_6

set_option maxHeartbeats 4000000 in
set_option maxRecDepth 100000 in
theorem k_X4_init (l : Launch) (D : hw_D) (G : Nat → Nat) (h0 : Nat) (p1 : Int32) (p2 : Int32) (p3 : Int32) (p4 : Int32) (sz : Nat) (G0 : G h0 = 104) : Met l yX4_init wsX4_init ({ frames := 1, cells := 0, slots := 0, locals := 12 } : Room) (hw_PC D G [.ref h0, .int p1, .int p2, .int p3, .int p4] sz (fun H => va_at D.1 vwCl (h0, .inr (3, [.int 0, .int 0, .int 0, .int 0])) H)) (hw_QM (fun v H => ∃ (G2 : Nat → Nat), v = none ∧ hw_HT D G2 H ∧ (∀ q, q < sz → q ≠ h0 → G2 q = G q) ∧ G2 h0 = 4) (hw_AW G [104] sz)) 0 0 (hw_AW G [104] sz) := by
  refine hw_met (cc := cX4_init) (maxL := 5) (ret := none) (plainFor_of_name (by decide)) rfl (Nat.le_of_ble_eq_true rfl) ?_
  intro p e s m args below meth c QQ ls hsz hx hb hml hr hts hown hlocks hnm hH hK hST hF hQ hl
  subst hsz
  have hS : va_S (hw_AW G [104] s.heap.size) s.heap s.heap [] := va_S.rf
  have va := hF
  have hl : lv_has ls 5 [(0, .ref h0), (1, .int p1), (2, .int p2), (3, .int p3), (4, .int p4)] := hl
  have u_3 : ∀ w ∈ u_ws RX4 TX4 4, w.before args s = true := fun w hw => hts w ((by decide +kernel : ∀ w ∈ u_ws RX4 TX4 4, w ∈ wsX4_init) w hw)
  have ff_7_3 : hw_FP s args m 7 3 0 true .int := ⟨RX4, "WardWalkers$Lock", RX4, TX4, 4, tyX4, u_3, hown, rfl, by decide, (hts (.fieldLink RX4 7 "WardWalkers$Lock" "place" "I") (by decide +kernel)), (fun _ h9 => h9), tyX4_ok, nmX4, rfl, fun _ => rfl, by decide +kernel⟩
  have ff_13_3 : hw_FP s args m 13 3 1 true .int := ⟨RX4, "WardWalkers$Lock", RX4, TX4, 4, tyX4, u_3, hown, rfl, by decide, (hts (.fieldLink RX4 13 "WardWalkers$Lock" "wanted" "I") (by decide +kernel)), (fun _ h9 => h9), tyX4_ok, nmX4, rfl, fun _ => rfl, by decide +kernel⟩
  have ff_16_3 : hw_FP s args m 16 3 2 true .int := ⟨RX4, "WardWalkers$Lock", RX4, TX4, 4, tyX4, u_3, hown, rfl, by decide, (hts (.fieldLink RX4 16 "WardWalkers$Lock" "play" "I") (by decide +kernel)), (fun _ h9 => h9), tyX4_ok, nmX4, rfl, fun _ => rfl, by decide +kernel⟩
  have ff_19_3 : hw_FP s args m 19 3 3 true .int := ⟨RX4, "WardWalkers$Lock", RX4, TX4, 4, tyX4, u_3, hown, rfl, by decide, (hts (.fieldLink RX4 19 "WardWalkers$Lock" "value" "I") (by decide +kernel)), (fun _ h9 => h9), tyX4_ok, nmX4, rfl, fun _ => rfl, by decide +kernel⟩
  refine lv_aload_n hx hb dX4_init_0 rfl (lv_at hl 0 rfl) ?_
  refine W.objInit hx hb hown (hts (.methodLink RX4 1 objectInit) (by decide +kernel)) (hts (.instanceMethod objectInit) (by decide +kernel)) (hts (.code objectInit ⟨#[0xb1]⟩ 1 none) (by decide +kernel)) rfl (by rw [hml]; exact hl.1) rfl dX4_init_1 (Nat.le_of_ble_eq_true rfl) (Nat.le_of_ble_eq_true rfl) ?_
  refine W.eq (g2 := F0 m 4 ls []) rfl ?_
  refine lv_aload_n hx hb dX4_init_4 rfl (lv_at hl 0 rfl) ?_
  refine lv_iload_n hx hb dX4_init_5 rfl (lv_at hl 1 rfl) ?_
  refine hw_putF (v := .int p1) (fs' := [.int p1, .int 0, .int 0, .int 0]) hx hb ff_7_3 hnm hK hH va (Nat.le_of_ble_eq_true rfl) rfl rfl rfl (fun _ => by rw [G0]; exact (show hw_ok D.2.1 G 104 _ from ⟨_, rfl⟩)) hS (hw_AWi G0 (by decide)) dX4_init_6 (fun H locs hH va oq hz hS => ?_)
  refine lv_aload_n hx hb dX4_init_9 rfl (lv_at hl 0 rfl) ?_
  refine lv_iload_n hx hb dX4_init_10 rfl (lv_at hl 2 rfl) ?_
  refine hw_putF (v := .int p2) (fs' := [.int p1, .int p2, .int 0, .int 0]) hx hb ff_13_3 hnm hK hH va (Nat.le_of_ble_eq_true rfl) rfl rfl rfl (fun _ => by rw [G0]; exact (show hw_ok D.2.1 G 104 _ from ⟨_, rfl⟩)) hS (hw_AWi G0 (by decide)) dX4_init_11 (fun H locs hH va oq hz hS => ?_)
  refine lv_aload_n hx hb dX4_init_14 rfl (lv_at hl 0 rfl) ?_
  refine lv_iload_n hx hb dX4_init_15 rfl (lv_at hl 3 rfl) ?_
  refine hw_putF (v := .int p3) (fs' := [.int p1, .int p2, .int p3, .int 0]) hx hb ff_16_3 hnm hK hH va (Nat.le_of_ble_eq_true rfl) rfl rfl rfl (fun _ => by rw [G0]; exact (show hw_ok D.2.1 G 104 _ from ⟨_, rfl⟩)) hS (hw_AWi G0 (by decide)) dX4_init_16 (fun H locs hH va oq hz hS => ?_)
  refine lv_aload_n hx hb dX4_init_19 rfl (lv_at hl 0 rfl) ?_
  refine lv_iload hx hb dX4_init_20 (lv_at hl 4 rfl) ?_
  refine hw_putF (v := .int p4) (fs' := [.int p1, .int p2, .int p3, .int p4]) hx hb ff_19_3 hnm hK hH va (Nat.le_of_ble_eq_true rfl) rfl rfl rfl (fun _ => by rw [G0]; exact (show hw_ok D.2.1 G 104 _ from ⟨_, rfl⟩)) hS (hw_AWi G0 (by decide)) dX4_init_22 (fun H locs hH va oq hz hS => ?_)
  obtain ⟨hH9, hm9⟩ := hw_HT.rekind (k := 4) hH (by rw [G0]; decide) va (show hw_OL G _ from ⟨(fun _ => 0), p1, p2, p3, p4, rfl⟩)
  refine W.widen (k := 0) (n := 0) (by first | decide | omega) (by first | decide | omega) ?_
  exact hw_vretM hx hb hr hlocks hQ hS ⟨(va_up G h0 4), rfl, hH9, (fun q9 h9 n9 => (va_up_ne _ _ n9).trans ((fun _ _ => rfl) q9 h9)), (va_up_self _ _ _)⟩ dX4_init_25

set_option maxHeartbeats 4000000 in
set_option maxRecDepth 100000 in
theorem k_X1_init (l : Launch) (D : hw_D) (G : Nat → Nat) (h0 : Nat) (sz : Nat) (G0 : G h0 = 102) : Met l yX1_init wsX1_init ({ frames := 1, cells := 3, slots := 17, locals := 12 } : Room) (hw_PC D G [.ref h0] sz (fun H => va_at D.1 vwCl (h0, .inr (1, [.null, .int 0, .null, .int 0, .null, .int 0, .int 0])) H)) (hw_QM (fun v H => ∃ (G2 : Nat → Nat) (r2 : Nat → Nat), v = none ∧ hw_HT D G2 H ∧ (∀ q, q < sz → q ≠ h0 → G2 q = G q) ∧ G2 h0 = 2 ∧ hw_RC G2 r2 ∧ va_at D.1 vwCl (h0, .inr (1, hw_LC r2 0 0 0 60)) H) (hw_AW G [102] sz)) 3 17 (hw_AW G [102] sz) := by
  refine hw_met (cc := cX1_init) (maxL := 1) (ret := none) (plainFor_of_name (by decide)) rfl (Nat.le_of_ble_eq_true rfl) ?_
  intro p e s m args below meth c QQ ls hsz hx hb hml hr hts hown hlocks hnm hH hK hST hF hQ hl
  subst hsz
  have hS : va_S (hw_AW G [102] s.heap.size) s.heap s.heap [] := va_S.rf
  have va := hF
  have hl : lv_has ls 1 [(0, .ref h0)] := hl
  have u_1 : ∀ w ∈ u_ws RX1 TX1 7, w.before args s = true := fun w hw => hts w ((by decide +kernel : ∀ w ∈ u_ws RX1 TX1 7, w ∈ wsX1_init) w hw)
  have ff_11_1 : hw_FP s args m 11 1 0 true (.array (.object "WardWalkers$Key")) := ⟨RX1, "WardWalkers$Country", RX1, TX1, 7, tyX1, u_1, hown, rfl, by decide, (hts (.fieldLink RX1 11 "WardWalkers$Country" "keys" "[LWardWalkers$Key;") (by decide +kernel)), (fun _ h9 => h9), tyX1_ok, nmX1, rfl, fun _ => rfl, by decide +kernel⟩
  have ff_19_1 : hw_FP s args m 19 1 2 true (.array (.object "WardWalkers$Lock")) := ⟨RX1, "WardWalkers$Country", RX1, TX1, 7, tyX1, u_1, hown, rfl, by decide, (hts (.fieldLink RX1 19 "WardWalkers$Country" "locks" "[LWardWalkers$Lock;") (by decide +kernel)), (fun _ h9 => h9), tyX1_ok, nmX1, rfl, fun _ => rfl, by decide +kernel⟩
  have ff_23_1 : hw_FP s args m 23 1 4 true (.array .int) := ⟨RX1, "WardWalkers$Country", RX1, TX1, 7, tyX1, u_1, hown, rfl, by decide, (hts (.fieldLink RX1 23 "WardWalkers$Country" "toldPlaces" "[I") (by decide +kernel)), (fun _ h9 => h9), tyX1_ok, nmX1, rfl, fun _ => rfl, by decide +kernel⟩
  have fp_27_1 : hw_FP s args m 27 1 6 false .int := ⟨RX1, "WardWalkers$Country", RX1, TX1, 7, tyX1, u_1, hown, rfl, by decide, (hts (.fieldLink RX1 27 "WardWalkers$Country" "dark" "I") (by decide +kernel)), (fun _ h9 => h9), tyX1_ok, nmX1, rfl, (fun h => by cases h), by decide +kernel⟩
  have hHs := hH
  refine lv_aload_n hx hb dX1_init_0 rfl (lv_at hl 0 rfl) ?_
  refine W.objInit hx hb hown (hts (.methodLink RX1 3 objectInit) (by decide +kernel)) (hts (.instanceMethod objectInit) (by decide +kernel)) (hts (.code objectInit ⟨#[0xb1]⟩ 1 none) (by decide +kernel)) rfl (by rw [hml]; exact hl.1) rfl dX1_init_1 (Nat.le_of_ble_eq_true rfl) (Nat.le_of_ble_eq_true rfl) ?_
  refine W.eq (g2 := F0 m 4 ls []) rfl ?_
  refine lv_aload_n hx hb dX1_init_4 rfl (lv_at hl 0 rfl) ?_
  refine lv_bipush (v := 7) hx hb dX1_init_5 (by decide) ?_
  have hS0 := hS
  refine hw_newq hx hb 10 hown (hts (.classLink RX1 9 RX3) (by decide +kernel)) (hw_eo_Key hST.ex) (t := 3) rfl hK hH hS (n := 7) (N := 7) (show hw_ok D.2.1 G 10 _ from ⟨_, rfl, fun _ _ _ h9 => by cases h9⟩) (by decide) (by decide) (by decide) (Nat.le_of_ble_eq_true rfl) (Nat.le_of_ble_eq_true rfl) dX1_init_7 (fun q1 G2 H hH m3 m4 k5 l6 e7 v8 oq hz hS => ?_)
  have w9 : s.heap.size ≤ q1 := by have := hS0.1; omega
  have g10 : ∀ x, x < s.heap.size → G2 x = G x := fun x h9 => (l6 x (Nat.lt_of_lt_of_le h9 hS0.1)).trans ((fun _ _ => rfl) x h9)
  have va := va_at.kept va (oq _ (hw_lt va))
  have k11 := hw_kg2 m4 G0 (by decide)
  refine hw_putF (v := .ref q1) (fs' := [.ref q1, .int 0, .null, .int 0, .null, .int 0, .int 0]) hx hb ff_11_1 hnm hK hH va (Nat.le_of_ble_eq_true rfl) rfl rfl rfl (fun _ => by rw [k11]; exact (show hw_ok D.2.1 G2 102 _ from ⟨_, rfl⟩)) hS (hw_AWi2 g10 k11 (by decide)) dX1_init_10 (fun H locs hH va oq hz hS => ?_)
  refine lv_aload_n hx hb dX1_init_13 rfl (lv_at hl 0 rfl) ?_
  refine lv_bipush (v := 7) hx hb dX1_init_14 (by decide) ?_
  have hS0 := hS
  refine hw_newq hx hb 11 hown (hts (.classLink RX1 17 RX4) (by decide +kernel)) (hw_eo_Lock hST.ex) (t := 4) rfl hK hH hS (n := 7) (N := 7) (show hw_ok D.2.1 G2 11 _ from ⟨_, rfl, fun _ _ _ h9 => by cases h9⟩) (by decide) (by decide) (by decide) (Nat.le_of_ble_eq_true rfl) (Nat.le_of_ble_eq_true rfl) dX1_init_16 (fun q12 G13 H hH m14 m15 k16 l17 e18 v19 oq hz hS => ?_)
  have w20 : s.heap.size ≤ q12 := by have := hS0.1; omega
  have g21 : ∀ x, x < s.heap.size → G13 x = G x := fun x h9 => (l17 x (Nat.lt_of_lt_of_le h9 hS0.1)).trans (g10 x h9)
  have va := va_at.kept va (oq _ (hw_lt va))
  have k22 := hw_kg2 m15 k11 (by decide)
  have k23 := hw_kg m14 k5 (by decide) (by decide)
  refine hw_putF (v := .ref q12) (fs' := [.ref q1, .int 0, .ref q12, .int 0, .null, .int 0, .int 0]) hx hb ff_19_1 hnm hK hH va (Nat.le_of_ble_eq_true rfl) rfl rfl rfl (fun _ => by rw [k22]; exact (show hw_ok D.2.1 G13 102 _ from ⟨_, rfl⟩)) hS (hw_AWi2 g21 k22 (by decide)) dX1_init_19 (fun H locs hH va oq hz hS => ?_)
  refine lv_aload_n hx hb dX1_init_22 rfl (lv_at hl 0 rfl) ?_
  refine lv_iconst (v := 3) hx hb dX1_init_23 (by decide) ?_
  have hS0 := hS
  refine hw_newa hx hb 12 (atype := .int) (hts (.arrayClass .int) (by decide +kernel)) (ty := .int) rfl (t := 0) rfl (fun _ h9 => h9) hK hH hS (n := 3) (N := 3) (3, .inl (fun _ => 0)) (fun _ => rfl) (show hw_ok D.2.1 G13 12 _ from ⟨_, rfl⟩) (by decide) (by decide) (by decide) (Nat.le_of_ble_eq_true rfl) (Nat.le_of_ble_eq_true rfl) dX1_init_24 (fun q24 G25 H hH m26 m27 k28 l29 e30 v31 oq hz hS => ?_)
  have w32 : s.heap.size ≤ q24 := by have := hS0.1; omega
  have g33 : ∀ x, x < s.heap.size → G25 x = G x := fun x h9 => (l29 x (Nat.lt_of_lt_of_le h9 hS0.1)).trans (g21 x h9)
  have va := va_at.kept va (oq _ (hw_lt va))
  have k34 := hw_kg2 m27 k22 (by decide)
  have k35 := hw_kg m26 k23 (by decide) (by decide)
  have k36 := hw_kg m26 k16 (by decide) (by decide)
  refine hw_putF (v := .ref q24) (fs' := [.ref q1, .int 0, .ref q12, .int 0, .ref q24, .int 0, .int 0]) hx hb ff_23_1 hnm hK hH va (Nat.le_of_ble_eq_true rfl) rfl rfl rfl (fun _ => by rw [k34]; exact (show hw_ok D.2.1 G25 102 _ from ⟨_, rfl⟩)) hS (hw_AWi2 g33 k34 (by decide)) dX1_init_26 (fun H locs hH va oq hz hS => ?_)
  refine lv_aload_n hx hb dX1_init_29 rfl (lv_at hl 0 rfl) ?_
  refine lv_bipush (v := 60) hx hb dX1_init_30 (by decide) ?_
  refine hw_put (v := .int 60) (fs' := [.ref q1, .int 0, .ref q12, .int 0, .ref q24, .int 0, .int 60]) hx hb fp_27_1 hK hH va (Nat.le_of_ble_eq_true rfl) rfl rfl rfl (fun _ => by rw [k34]; exact (show hw_ok D.2.1 G25 102 _ from ⟨_, rfl⟩)) hS (hw_AWi2 g33 k34 (by decide)) dX1_init_32 (fun H locs hH va oq hz hS => ?_)
  have R37 : hw_RC G25 (fun i9 => [q1, 0, q12, 0, q24, 0, 0].getD i9 0) := ⟨k35, k36, k28⟩
  obtain ⟨hH9, hm9⟩ := hw_HT.rekind (k := 2) hH (by rw [k34]; decide) va (show hw_OC G25 _ from ⟨(fun i9 => [q1, 0, q12, 0, q24, 0, 0].getD i9 0), 0, 0, 0, 60, rfl, R37, ⟨by decide, by decide⟩, ⟨by decide, by decide⟩, ⟨by decide, by decide⟩⟩)
  refine W.widen (k := 3) (n := 17) (by first | decide | omega) (by first | decide | omega) ?_
  exact hw_vretM hx hb hr hlocks hQ hS ⟨(va_up G25 h0 2), (fun i9 => [q1, 0, q12, 0, q24, 0, 0].getD i9 0), rfl, hH9, (fun q9 h9 n9 => (va_up_ne _ _ n9).trans (g33 q9 h9)), (va_up_self _ _ _), (hw_RC_mono hm9 R37), va⟩ dX1_init_35

set_option maxHeartbeats 4000000 in
set_option maxRecDepth 100000 in
theorem k_X6_init (l : Launch) (D : hw_D) (G : Nat → Nat) (h0 : Nat) (sz : Nat) (G0 : G h0 = 105) : Met l yX6_init wsX6_init ({ frames := 1, cells := 6, slots := 2190, locals := 12 } : Room) (hw_PC D G [.ref h0] sz (fun H => va_at D.1 vwCl (h0, .inr (5, [.null, .null, .null, .int 0, .null, .null, .null])) H)) (hw_QM (fun v H => ∃ (G2 : Nat → Nat), v = none ∧ hw_HT D G2 H ∧ (∀ q, q < sz → q ≠ h0 → G2 q = G q) ∧ G2 h0 = 5) (hw_AW G [105] sz)) 6 2190 (hw_AW G [105] sz) := by
  refine hw_met (cc := cX6_init) (maxL := 1) (ret := none) (plainFor_of_name (by decide)) rfl (Nat.le_of_ble_eq_true rfl) ?_
  intro p e s m args below meth c QQ ls hsz hx hb hml hr hts hown hlocks hnm hH hK hST hF hQ hl
  subst hsz
  have hS : va_S (hw_AW G [105] s.heap.size) s.heap s.heap [] := va_S.rf
  have va := hF
  have hl : lv_has ls 1 [(0, .ref h0)] := hl
  have u_5 : ∀ w ∈ u_ws RX6 TX6 7, w.before args s = true := fun w hw => hts w ((by decide +kernel : ∀ w ∈ u_ws RX6 TX6 7, w ∈ wsX6_init) w hw)
  have ff_9_5 : hw_FP s args m 9 5 0 true (.array .int) := ⟨RX6, "WardWalkers$Planner", RX6, TX6, 7, tyX6, u_5, hown, rfl, by decide, (hts (.fieldLink RX6 9 "WardWalkers$Planner" "takers" "[I") (by decide +kernel)), (fun _ h9 => h9), tyX6_ok, nmX6, rfl, fun _ => rfl, by decide +kernel⟩
  have ff_15_5 : hw_FP s args m 15 5 1 true (.array .int) := ⟨RX6, "WardWalkers$Planner", RX6, TX6, 7, tyX6, u_5, hown, rfl, by decide, (hts (.fieldLink RX6 15 "WardWalkers$Planner" "mostFrom" "[I") (by decide +kernel)), (fun _ h9 => h9), tyX6_ok, nmX6, rfl, fun _ => rfl, by decide +kernel⟩
  have ff_18_5 : hw_FP s args m 18 5 2 true (.array .int) := ⟨RX6, "WardWalkers$Planner", RX6, TX6, 7, tyX6, u_5, hown, rfl, by decide, (hts (.fieldLink RX6 18 "WardWalkers$Planner" "chosen" "[I") (by decide +kernel)), (fun _ h9 => h9), tyX6_ok, nmX6, rfl, fun _ => rfl, by decide +kernel⟩
  have ff_21_5 : hw_FP s args m 21 5 4 true (.array .int) := ⟨RX6, "WardWalkers$Planner", RX6, TX6, 7, tyX6, u_5, hown, rfl, by decide, (hts (.fieldLink RX6 21 "WardWalkers$Planner" "through" "[I") (by decide +kernel)), (fun _ h9 => h9), tyX6_ok, nmX6, rfl, fun _ => rfl, by decide +kernel⟩
  have ff_24_5 : hw_FP s args m 24 5 5 true (.array .int) := ⟨RX6, "WardWalkers$Planner", RX6, TX6, 7, tyX6, u_5, hown, rfl, by decide, (hts (.fieldLink RX6 24 "WardWalkers$Planner" "tour" "[I") (by decide +kernel)), (fun _ h9 => h9), tyX6_ok, nmX6, rfl, fun _ => rfl, by decide +kernel⟩
  have ff_27_5 : hw_FP s args m 27 5 6 true (.array .int) := ⟨RX6, "WardWalkers$Planner", RX6, TX6, 7, tyX6, u_5, hown, rfl, by decide, (hts (.fieldLink RX6 27 "WardWalkers$Planner" "latest" "[I") (by decide +kernel)), (fun _ h9 => h9), tyX6_ok, nmX6, rfl, fun _ => rfl, by decide +kernel⟩
  have hHs := hH
  refine lv_aload_n hx hb dX6_init_0 rfl (lv_at hl 0 rfl) ?_
  refine W.objInit hx hb hown (hts (.methodLink RX6 3 objectInit) (by decide +kernel)) (hts (.instanceMethod objectInit) (by decide +kernel)) (hts (.code objectInit ⟨#[0xb1]⟩ 1 none) (by decide +kernel)) rfl (by rw [hml]; exact hl.1) rfl dX6_init_1 (Nat.le_of_ble_eq_true rfl) (Nat.le_of_ble_eq_true rfl) ?_
  refine W.eq (g2 := F0 m 4 ls []) rfl ?_
  refine lv_aload_n hx hb dX6_init_4 rfl (lv_at hl 0 rfl) ?_
  refine lv_bipush (v := 7) hx hb dX6_init_5 (by decide) ?_
  have hS0 := hS
  refine hw_newa hx hb 13 (atype := .int) (hts (.arrayClass .int) (by decide +kernel)) (ty := .int) rfl (t := 0) rfl (fun _ h9 => h9) hK hH hS (n := 7) (N := 7) (7, .inl (fun _ => 0)) (fun _ => rfl) (show hw_ok D.2.1 G 13 _ from ⟨_, rfl⟩) (by decide) (by decide) (by decide) (Nat.le_of_ble_eq_true rfl) (Nat.le_of_ble_eq_true rfl) dX6_init_7 (fun q1 G2 H hH m3 m4 k5 l6 e7 v8 oq hz hS => ?_)
  have w9 : s.heap.size ≤ q1 := by have := hS0.1; omega
  have g10 : ∀ x, x < s.heap.size → G2 x = G x := fun x h9 => (l6 x (Nat.lt_of_lt_of_le h9 hS0.1)).trans ((fun _ _ => rfl) x h9)
  have va := va_at.kept va (oq _ (hw_lt va))
  have k11 := hw_kg2 m4 G0 (by decide)
  refine hw_putF (v := .ref q1) (fs' := [.ref q1, .null, .null, .int 0, .null, .null, .null]) hx hb ff_9_5 hnm hK hH va (Nat.le_of_ble_eq_true rfl) rfl rfl rfl (fun _ => by rw [k11]; exact (show hw_ok D.2.1 G2 105 _ from ⟨_, rfl⟩)) hS (hw_AWi2 g10 k11 (by decide)) dX6_init_9 (fun H locs hH va oq hz hS => ?_)
  refine lv_aload_n hx hb dX6_init_12 rfl (lv_at hl 0 rfl) ?_
  refine lv_sipush (v := 1024) hx hb dX6_init_13 (by decide) ?_
  have hS0 := hS
  refine hw_newa hx hb 14 (atype := .int) (hts (.arrayClass .int) (by decide +kernel)) (ty := .int) rfl (t := 0) rfl (fun _ h9 => h9) hK hH hS (n := 1024) (N := 1024) (1024, .inl (fun _ => 0)) (fun _ => rfl) (show hw_ok D.2.1 G2 14 _ from ⟨_, rfl⟩) (by decide) (by decide) (by decide) (Nat.le_of_ble_eq_true rfl) (Nat.le_of_ble_eq_true rfl) dX6_init_16 (fun q12 G13 H hH m14 m15 k16 l17 e18 v19 oq hz hS => ?_)
  have w20 : s.heap.size ≤ q12 := by have := hS0.1; omega
  have g21 : ∀ x, x < s.heap.size → G13 x = G x := fun x h9 => (l17 x (Nat.lt_of_lt_of_le h9 hS0.1)).trans (g10 x h9)
  have va := va_at.kept va (oq _ (hw_lt va))
  have k22 := hw_kg2 m15 k11 (by decide)
  have k23 := hw_kg m14 k5 (by decide) (by decide)
  refine hw_putF (v := .ref q12) (fs' := [.ref q1, .ref q12, .null, .int 0, .null, .null, .null]) hx hb ff_15_5 hnm hK hH va (Nat.le_of_ble_eq_true rfl) rfl rfl rfl (fun _ => by rw [k22]; exact (show hw_ok D.2.1 G13 105 _ from ⟨_, rfl⟩)) hS (hw_AWi2 g21 k22 (by decide)) dX6_init_18 (fun H locs hH va oq hz hS => ?_)
  refine lv_aload_n hx hb dX6_init_21 rfl (lv_at hl 0 rfl) ?_
  refine lv_bipush (v := 7) hx hb dX6_init_22 (by decide) ?_
  have hS0 := hS
  refine hw_newa hx hb 15 (atype := .int) (hts (.arrayClass .int) (by decide +kernel)) (ty := .int) rfl (t := 0) rfl (fun _ h9 => h9) hK hH hS (n := 7) (N := 7) (7, .inl (fun _ => 0)) (fun _ => rfl) (show hw_ok D.2.1 G13 15 _ from ⟨_, rfl, fun _ _ => ⟨by decide, by decide⟩⟩) (by decide) (by decide) (by decide) (Nat.le_of_ble_eq_true rfl) (Nat.le_of_ble_eq_true rfl) dX6_init_24 (fun q24 G25 H hH m26 m27 k28 l29 e30 v31 oq hz hS => ?_)
  have w32 : s.heap.size ≤ q24 := by have := hS0.1; omega
  have g33 : ∀ x, x < s.heap.size → G25 x = G x := fun x h9 => (l29 x (Nat.lt_of_lt_of_le h9 hS0.1)).trans (g21 x h9)
  have va := va_at.kept va (oq _ (hw_lt va))
  have k34 := hw_kg2 m27 k22 (by decide)
  have k35 := hw_kg m26 k23 (by decide) (by decide)
  have k36 := hw_kg m26 k16 (by decide) (by decide)
  refine hw_putF (v := .ref q24) (fs' := [.ref q1, .ref q12, .ref q24, .int 0, .null, .null, .null]) hx hb ff_18_5 hnm hK hH va (Nat.le_of_ble_eq_true rfl) rfl rfl rfl (fun _ => by rw [k34]; exact (show hw_ok D.2.1 G25 105 _ from ⟨_, rfl⟩)) hS (hw_AWi2 g33 k34 (by decide)) dX6_init_26 (fun H locs hH va oq hz hS => ?_)
  refine lv_aload_n hx hb dX6_init_29 rfl (lv_at hl 0 rfl) ?_
  refine lv_sipush (v := 896) hx hb dX6_init_30 (by decide) ?_
  have hS0 := hS
  refine hw_newa hx hb 16 (atype := .int) (hts (.arrayClass .int) (by decide +kernel)) (ty := .int) rfl (t := 0) rfl (fun _ h9 => h9) hK hH hS (n := 896) (N := 896) (896, .inl (fun _ => 0)) (fun _ => rfl) (show hw_ok D.2.1 G25 16 _ from ⟨_, rfl⟩) (by decide) (by decide) (by decide) (Nat.le_of_ble_eq_true rfl) (Nat.le_of_ble_eq_true rfl) dX6_init_33 (fun q37 G38 H hH m39 m40 k41 l42 e43 v44 oq hz hS => ?_)
  have w45 : s.heap.size ≤ q37 := by have := hS0.1; omega
  have g46 : ∀ x, x < s.heap.size → G38 x = G x := fun x h9 => (l42 x (Nat.lt_of_lt_of_le h9 hS0.1)).trans (g33 x h9)
  have va := va_at.kept va (oq _ (hw_lt va))
  have k47 := hw_kg2 m40 k34 (by decide)
  have k48 := hw_kg m39 k35 (by decide) (by decide)
  have k49 := hw_kg m39 k36 (by decide) (by decide)
  have k50 := hw_kg m39 k28 (by decide) (by decide)
  refine hw_putF (v := .ref q37) (fs' := [.ref q1, .ref q12, .ref q24, .int 0, .ref q37, .null, .null]) hx hb ff_21_5 hnm hK hH va (Nat.le_of_ble_eq_true rfl) rfl rfl rfl (fun _ => by rw [k47]; exact (show hw_ok D.2.1 G38 105 _ from ⟨_, rfl⟩)) hS (hw_AWi2 g46 k47 (by decide)) dX6_init_35 (fun H locs hH va oq hz hS => ?_)
  refine lv_aload_n hx hb dX6_init_38 rfl (lv_at hl 0 rfl) ?_
  refine lv_sipush (v := 128) hx hb dX6_init_39 (by decide) ?_
  have hS0 := hS
  refine hw_newa hx hb 17 (atype := .int) (hts (.arrayClass .int) (by decide +kernel)) (ty := .int) rfl (t := 0) rfl (fun _ h9 => h9) hK hH hS (n := 128) (N := 128) (128, .inl (fun _ => 0)) (fun _ => rfl) (show hw_ok D.2.1 G38 17 _ from ⟨_, rfl⟩) (by decide) (by decide) (by decide) (Nat.le_of_ble_eq_true rfl) (Nat.le_of_ble_eq_true rfl) dX6_init_42 (fun q51 G52 H hH m53 m54 k55 l56 e57 v58 oq hz hS => ?_)
  have w59 : s.heap.size ≤ q51 := by have := hS0.1; omega
  have g60 : ∀ x, x < s.heap.size → G52 x = G x := fun x h9 => (l56 x (Nat.lt_of_lt_of_le h9 hS0.1)).trans (g46 x h9)
  have va := va_at.kept va (oq _ (hw_lt va))
  have k61 := hw_kg2 m54 k47 (by decide)
  have k62 := hw_kg m53 k48 (by decide) (by decide)
  have k63 := hw_kg m53 k49 (by decide) (by decide)
  have k64 := hw_kg m53 k50 (by decide) (by decide)
  have k65 := hw_kg m53 k41 (by decide) (by decide)
  refine hw_putF (v := .ref q51) (fs' := [.ref q1, .ref q12, .ref q24, .int 0, .ref q37, .ref q51, .null]) hx hb ff_24_5 hnm hK hH va (Nat.le_of_ble_eq_true rfl) rfl rfl rfl (fun _ => by rw [k61]; exact (show hw_ok D.2.1 G52 105 _ from ⟨_, rfl⟩)) hS (hw_AWi2 g60 k61 (by decide)) dX6_init_44 (fun H locs hH va oq hz hS => ?_)
  refine lv_aload_n hx hb dX6_init_47 rfl (lv_at hl 0 rfl) ?_
  refine lv_sipush (v := 128) hx hb dX6_init_48 (by decide) ?_
  have hS0 := hS
  refine hw_newa hx hb 18 (atype := .int) (hts (.arrayClass .int) (by decide +kernel)) (ty := .int) rfl (t := 0) rfl (fun _ h9 => h9) hK hH hS (n := 128) (N := 128) (128, .inl (fun _ => 0)) (fun _ => rfl) (show hw_ok D.2.1 G52 18 _ from ⟨_, rfl⟩) (by decide) (by decide) (by decide) (Nat.le_of_ble_eq_true rfl) (Nat.le_of_ble_eq_true rfl) dX6_init_51 (fun q66 G67 H hH m68 m69 k70 l71 e72 v73 oq hz hS => ?_)
  have w74 : s.heap.size ≤ q66 := by have := hS0.1; omega
  have g75 : ∀ x, x < s.heap.size → G67 x = G x := fun x h9 => (l71 x (Nat.lt_of_lt_of_le h9 hS0.1)).trans (g60 x h9)
  have va := va_at.kept va (oq _ (hw_lt va))
  have k76 := hw_kg2 m69 k61 (by decide)
  have k77 := hw_kg m68 k62 (by decide) (by decide)
  have k78 := hw_kg m68 k63 (by decide) (by decide)
  have k79 := hw_kg m68 k64 (by decide) (by decide)
  have k80 := hw_kg m68 k65 (by decide) (by decide)
  have k81 := hw_kg m68 k55 (by decide) (by decide)
  refine hw_putF (v := .ref q66) (fs' := [.ref q1, .ref q12, .ref q24, .int 0, .ref q37, .ref q51, .ref q66]) hx hb ff_27_5 hnm hK hH va (Nat.le_of_ble_eq_true rfl) rfl rfl rfl (fun _ => by rw [k76]; exact (show hw_ok D.2.1 G67 105 _ from ⟨_, rfl⟩)) hS (hw_AWi2 g75 k76 (by decide)) dX6_init_53 (fun H locs hH va oq hz hS => ?_)
  have R82 : hw_RP G67 (fun i9 => [q1, q12, q24, 0, q37, q51, q66].getD i9 0) := ⟨k77, k78, k79, k80, k81, k70⟩
  obtain ⟨hH9, hm9⟩ := hw_HT.rekind (k := 5) hH (by rw [k76]; decide) va (show hw_OP G67 _ from ⟨(fun i9 => [q1, q12, q24, 0, q37, q51, q66].getD i9 0), 0, rfl, R82⟩)
  refine W.widen (k := 6) (n := 2190) (by first | decide | omega) (by first | decide | omega) ?_
  exact hw_vretM hx hb hr hlocks hQ hS ⟨(va_up G67 h0 5), rfl, hH9, (fun q9 h9 n9 => (va_up_ne _ _ n9).trans (g75 q9 h9)), (va_up_self _ _ _)⟩ dX6_init_56

set_option maxHeartbeats 4000000 in
set_option maxRecDepth 100000 in
theorem k_X7_init (l : Launch) (D : hw_D) (G : Nat → Nat) (h0 : Nat) (sz : Nat) (G0 : G h0 = 106) : Met l yX7_init wsX7_init ({ frames := 1, cells := 1, slots := 24, locals := 12 } : Room) (hw_PC D G [.ref h0] sz (fun H => va_at D.1 vwCl (h0, .inr (6, [.null, .int 0, .int 0])) H)) (hw_QM (fun v H => ∃ (G2 : Nat → Nat) (r2 : Nat → Nat), v = none ∧ hw_HT D G2 H ∧ (∀ q, q < sz → q ≠ h0 → G2 q = G q) ∧ G2 h0 = 6 ∧ hw_RK G2 r2 ∧ va_at D.1 vwCl (h0, .inr (6, hw_LK r2 (-1) 0)) H) (hw_AW G [106] sz)) 1 24 (hw_AW G [106] sz) := by
  refine hw_met (cc := cX7_init) (maxL := 1) (ret := none) (plainFor_of_name (by decide)) rfl (Nat.le_of_ble_eq_true rfl) ?_
  intro p e s m args below meth c QQ ls hsz hx hb hml hr hts hown hlocks hnm hH hK hST hF hQ hl
  subst hsz
  have hS : va_S (hw_AW G [106] s.heap.size) s.heap s.heap [] := va_S.rf
  have va := hF
  have hl : lv_has ls 1 [(0, .ref h0)] := hl
  have u_6 : ∀ w ∈ u_ws RX7 TX7 3, w.before args s = true := fun w hw => hts w ((by decide +kernel : ∀ w ∈ u_ws RX7 TX7 3, w ∈ wsX7_init) w hw)
  have ff_9_6 : hw_FP s args m 9 6 0 true (.array .long) := ⟨RX7, "WardWalkers$Rack", RX7, TX7, 3, tyX7, u_6, hown, rfl, by decide, (hts (.fieldLink RX7 9 "WardWalkers$Rack" "things" "[J") (by decide +kernel)), (fun _ h9 => h9), tyX7_ok, nmX7, rfl, fun _ => rfl, by decide +kernel⟩
  have fp_15_6 : hw_FP s args m 15 6 1 false .int := ⟨RX7, "WardWalkers$Rack", RX7, TX7, 3, tyX7, u_6, hown, rfl, by decide, (hts (.fieldLink RX7 15 "WardWalkers$Rack" "lane" "I") (by decide +kernel)), (fun _ h9 => h9), tyX7_ok, nmX7, rfl, (fun h => by cases h), by decide +kernel⟩
  have hHs := hH
  refine lv_aload_n hx hb dX7_init_0 rfl (lv_at hl 0 rfl) ?_
  refine W.objInit hx hb hown (hts (.methodLink RX7 3 objectInit) (by decide +kernel)) (hts (.instanceMethod objectInit) (by decide +kernel)) (hts (.code objectInit ⟨#[0xb1]⟩ 1 none) (by decide +kernel)) rfl (by rw [hml]; exact hl.1) rfl dX7_init_1 (Nat.le_of_ble_eq_true rfl) (Nat.le_of_ble_eq_true rfl) ?_
  refine W.eq (g2 := F0 m 4 ls []) rfl ?_
  refine lv_aload_n hx hb dX7_init_4 rfl (lv_at hl 0 rfl) ?_
  refine lv_bipush (v := 24) hx hb dX7_init_5 (by decide) ?_
  have hS0 := hS
  refine hw_newa hx hb 19 (atype := .long) (hts (.arrayClass .long) (by decide +kernel)) (ty := .long) rfl (t := 1) rfl (fun _ h9 => h9) hK hH hS (n := 24) (N := 24) (24, .inr (.inl (fun _ => 0))) (fun _ => rfl) (show hw_ok D.2.1 G 19 _ from ⟨_, rfl⟩) (by decide) (by decide) (by decide) (Nat.le_of_ble_eq_true rfl) (Nat.le_of_ble_eq_true rfl) dX7_init_7 (fun q1 G2 H hH m3 m4 k5 l6 e7 v8 oq hz hS => ?_)
  have w9 : s.heap.size ≤ q1 := by have := hS0.1; omega
  have g10 : ∀ x, x < s.heap.size → G2 x = G x := fun x h9 => (l6 x (Nat.lt_of_lt_of_le h9 hS0.1)).trans ((fun _ _ => rfl) x h9)
  have va := va_at.kept va (oq _ (hw_lt va))
  have k11 := hw_kg2 m4 G0 (by decide)
  refine hw_putF (v := .ref q1) (fs' := [.ref q1, .int 0, .int 0]) hx hb ff_9_6 hnm hK hH va (Nat.le_of_ble_eq_true rfl) rfl rfl rfl (fun _ => by rw [k11]; exact (show hw_ok D.2.1 G2 106 _ from ⟨_, rfl⟩)) hS (hw_AWi2 g10 k11 (by decide)) dX7_init_9 (fun H locs hH va oq hz hS => ?_)
  refine lv_aload_n hx hb dX7_init_12 rfl (lv_at hl 0 rfl) ?_
  refine lv_iconst (v := (-1)) hx hb dX7_init_13 (by decide) ?_
  refine hw_put (v := .int (-1)) (fs' := [.ref q1, .int (-1), .int 0]) hx hb fp_15_6 hK hH va (Nat.le_of_ble_eq_true rfl) rfl rfl rfl (fun _ => by rw [k11]; exact (show hw_ok D.2.1 G2 106 _ from ⟨_, rfl⟩)) hS (hw_AWi2 g10 k11 (by decide)) dX7_init_14 (fun H locs hH va oq hz hS => ?_)
  have R12 : hw_RK G2 (fun i9 => [q1, 0, 0].getD i9 0) := k5
  obtain ⟨hH9, hm9⟩ := hw_HT.rekind (k := 6) hH (by rw [k11]; decide) va (show hw_OK G2 _ from ⟨(fun i9 => [q1, 0, 0].getD i9 0), (-1), 0, rfl, R12⟩)
  refine W.widen (k := 1) (n := 24) (by first | decide | omega) (by first | decide | omega) ?_
  exact hw_vretM hx hb hr hlocks hQ hS ⟨(va_up G2 h0 6), (fun i9 => [q1, 0, 0].getD i9 0), rfl, hH9, (fun q9 h9 n9 => (va_up_ne _ _ n9).trans (g10 q9 h9)), (va_up_self _ _ _), (hw_RK_mono hm9 R12), va⟩ dX7_init_17

set_option maxHeartbeats 4000000 in
set_option maxRecDepth 100000 in
theorem k_X9_init (l : Launch) (D : hw_D) (G : Nat → Nat) (h0 : Nat) (sz : Nat) (G0 : G h0 = 107) : Met l yX9_init wsX9_init ({ frames := 1, cells := 4, slots := 20, locals := 12 } : Room) (hw_PC D G [.ref h0] sz (fun H => va_at D.1 vwCl (h0, .inr (8, [.int 0, .int 0, .int 0, .null, .null, .null, .null])) H)) (hw_QM (fun v H => ∃ (G2 : Nat → Nat) (r2 : Nat → Nat), v = none ∧ hw_HT D G2 H ∧ (∀ q, q < sz → q ≠ h0 → G2 q = G q) ∧ G2 h0 = 7 ∧ hw_RS G2 r2 ∧ va_at D.1 vwCl (h0, .inr (8, hw_LS r2 0 0 0)) H) (hw_AW G [107] sz)) 4 20 (hw_AW G [107] sz) := by
  refine hw_met (cc := cX9_init) (maxL := 1) (ret := none) (plainFor_of_name (by decide)) rfl (Nat.le_of_ble_eq_true rfl) ?_
  intro p e s m args below meth c QQ ls hsz hx hb hml hr hts hown hlocks hnm hH hK hST hF hQ hl
  subst hsz
  have hS : va_S (hw_AW G [107] s.heap.size) s.heap s.heap [] := va_S.rf
  have va := hF
  have hl : lv_has ls 1 [(0, .ref h0)] := hl
  have u_8 : ∀ w ∈ u_ws RX9 TX9 7, w.before args s = true := fun w hw => hts w ((by decide +kernel : ∀ w ∈ u_ws RX9 TX9 7, w ∈ wsX9_init) w hw)
  have ff_9_8 : hw_FP s args m 9 8 3 true (.array .int) := ⟨RX9, "WardWalkers$Standing", RX9, TX9, 7, tyX9, u_8, hown, rfl, by decide, (hts (.fieldLink RX9 9 "WardWalkers$Standing" "bent" "[I") (by decide +kernel)), (fun _ h9 => h9), tyX9_ok, nmX9, rfl, fun _ => rfl, by decide +kernel⟩
  have ff_15_8 : hw_FP s args m 15 8 4 true (.array .int) := ⟨RX9, "WardWalkers$Standing", RX9, TX9, 7, tyX9, u_8, hown, rfl, by decide, (hts (.fieldLink RX9 15 "WardWalkers$Standing" "turned" "[I") (by decide +kernel)), (fun _ h9 => h9), tyX9_ok, nmX9, rfl, fun _ => rfl, by decide +kernel⟩
  have ff_18_8 : hw_FP s args m 18 8 5 true (.array .int) := ⟨RX9, "WardWalkers$Standing", RX9, TX9, 7, tyX9, u_8, hown, rfl, by decide, (hts (.fieldLink RX9 18 "WardWalkers$Standing" "places" "[I") (by decide +kernel)), (fun _ h9 => h9), tyX9_ok, nmX9, rfl, fun _ => rfl, by decide +kernel⟩
  have ff_21_8 : hw_FP s args m 21 8 6 true (.array .int) := ⟨RX9, "WardWalkers$Standing", RX9, TX9, 7, tyX9, u_8, hown, rfl, by decide, (hts (.fieldLink RX9 21 "WardWalkers$Standing" "minutes" "[I") (by decide +kernel)), (fun _ h9 => h9), tyX9_ok, nmX9, rfl, fun _ => rfl, by decide +kernel⟩
  have hHs := hH
  refine lv_aload_n hx hb dX9_init_0 rfl (lv_at hl 0 rfl) ?_
  refine W.objInit hx hb hown (hts (.methodLink RX9 3 objectInit) (by decide +kernel)) (hts (.instanceMethod objectInit) (by decide +kernel)) (hts (.code objectInit ⟨#[0xb1]⟩ 1 none) (by decide +kernel)) rfl (by rw [hml]; exact hl.1) rfl dX9_init_1 (Nat.le_of_ble_eq_true rfl) (Nat.le_of_ble_eq_true rfl) ?_
  refine W.eq (g2 := F0 m 4 ls []) rfl ?_
  refine lv_aload_n hx hb dX9_init_4 rfl (lv_at hl 0 rfl) ?_
  refine lv_bipush (v := 7) hx hb dX9_init_5 (by decide) ?_
  have hS0 := hS
  refine hw_newa hx hb 20 (atype := .int) (hts (.arrayClass .int) (by decide +kernel)) (ty := .int) rfl (t := 0) rfl (fun _ h9 => h9) hK hH hS (n := 7) (N := 7) (7, .inl (fun _ => 0)) (fun _ => rfl) (show hw_ok D.2.1 G 20 _ from ⟨_, rfl⟩) (by decide) (by decide) (by decide) (Nat.le_of_ble_eq_true rfl) (Nat.le_of_ble_eq_true rfl) dX9_init_7 (fun q1 G2 H hH m3 m4 k5 l6 e7 v8 oq hz hS => ?_)
  have w9 : s.heap.size ≤ q1 := by have := hS0.1; omega
  have g10 : ∀ x, x < s.heap.size → G2 x = G x := fun x h9 => (l6 x (Nat.lt_of_lt_of_le h9 hS0.1)).trans ((fun _ _ => rfl) x h9)
  have va := va_at.kept va (oq _ (hw_lt va))
  have k11 := hw_kg2 m4 G0 (by decide)
  refine hw_putF (v := .ref q1) (fs' := [.int 0, .int 0, .int 0, .ref q1, .null, .null, .null]) hx hb ff_9_8 hnm hK hH va (Nat.le_of_ble_eq_true rfl) rfl rfl rfl (fun _ => by rw [k11]; exact (show hw_ok D.2.1 G2 107 _ from ⟨_, rfl⟩)) hS (hw_AWi2 g10 k11 (by decide)) dX9_init_9 (fun H locs hH va oq hz hS => ?_)
  refine lv_aload_n hx hb dX9_init_12 rfl (lv_at hl 0 rfl) ?_
  refine lv_bipush (v := 7) hx hb dX9_init_13 (by decide) ?_
  have hS0 := hS
  refine hw_newa hx hb 21 (atype := .int) (hts (.arrayClass .int) (by decide +kernel)) (ty := .int) rfl (t := 0) rfl (fun _ h9 => h9) hK hH hS (n := 7) (N := 7) (7, .inl (fun _ => 0)) (fun _ => rfl) (show hw_ok D.2.1 G2 21 _ from ⟨_, rfl⟩) (by decide) (by decide) (by decide) (Nat.le_of_ble_eq_true rfl) (Nat.le_of_ble_eq_true rfl) dX9_init_15 (fun q12 G13 H hH m14 m15 k16 l17 e18 v19 oq hz hS => ?_)
  have w20 : s.heap.size ≤ q12 := by have := hS0.1; omega
  have g21 : ∀ x, x < s.heap.size → G13 x = G x := fun x h9 => (l17 x (Nat.lt_of_lt_of_le h9 hS0.1)).trans (g10 x h9)
  have va := va_at.kept va (oq _ (hw_lt va))
  have k22 := hw_kg2 m15 k11 (by decide)
  have k23 := hw_kg m14 k5 (by decide) (by decide)
  refine hw_putF (v := .ref q12) (fs' := [.int 0, .int 0, .int 0, .ref q1, .ref q12, .null, .null]) hx hb ff_15_8 hnm hK hH va (Nat.le_of_ble_eq_true rfl) rfl rfl rfl (fun _ => by rw [k22]; exact (show hw_ok D.2.1 G13 107 _ from ⟨_, rfl⟩)) hS (hw_AWi2 g21 k22 (by decide)) dX9_init_17 (fun H locs hH va oq hz hS => ?_)
  refine lv_aload_n hx hb dX9_init_20 rfl (lv_at hl 0 rfl) ?_
  refine lv_iconst (v := 3) hx hb dX9_init_21 (by decide) ?_
  have hS0 := hS
  refine hw_newa hx hb 22 (atype := .int) (hts (.arrayClass .int) (by decide +kernel)) (ty := .int) rfl (t := 0) rfl (fun _ h9 => h9) hK hH hS (n := 3) (N := 3) (3, .inl (fun _ => 0)) (fun _ => rfl) (show hw_ok D.2.1 G13 22 _ from ⟨_, rfl⟩) (by decide) (by decide) (by decide) (Nat.le_of_ble_eq_true rfl) (Nat.le_of_ble_eq_true rfl) dX9_init_22 (fun q24 G25 H hH m26 m27 k28 l29 e30 v31 oq hz hS => ?_)
  have w32 : s.heap.size ≤ q24 := by have := hS0.1; omega
  have g33 : ∀ x, x < s.heap.size → G25 x = G x := fun x h9 => (l29 x (Nat.lt_of_lt_of_le h9 hS0.1)).trans (g21 x h9)
  have va := va_at.kept va (oq _ (hw_lt va))
  have k34 := hw_kg2 m27 k22 (by decide)
  have k35 := hw_kg m26 k23 (by decide) (by decide)
  have k36 := hw_kg m26 k16 (by decide) (by decide)
  refine hw_putF (v := .ref q24) (fs' := [.int 0, .int 0, .int 0, .ref q1, .ref q12, .ref q24, .null]) hx hb ff_18_8 hnm hK hH va (Nat.le_of_ble_eq_true rfl) rfl rfl rfl (fun _ => by rw [k34]; exact (show hw_ok D.2.1 G25 107 _ from ⟨_, rfl⟩)) hS (hw_AWi2 g33 k34 (by decide)) dX9_init_24 (fun H locs hH va oq hz hS => ?_)
  refine lv_aload_n hx hb dX9_init_27 rfl (lv_at hl 0 rfl) ?_
  refine lv_iconst (v := 3) hx hb dX9_init_28 (by decide) ?_
  have hS0 := hS
  refine hw_newa hx hb 23 (atype := .int) (hts (.arrayClass .int) (by decide +kernel)) (ty := .int) rfl (t := 0) rfl (fun _ h9 => h9) hK hH hS (n := 3) (N := 3) (3, .inl (fun _ => 0)) (fun _ => rfl) (show hw_ok D.2.1 G25 23 _ from ⟨_, rfl⟩) (by decide) (by decide) (by decide) (Nat.le_of_ble_eq_true rfl) (Nat.le_of_ble_eq_true rfl) dX9_init_29 (fun q37 G38 H hH m39 m40 k41 l42 e43 v44 oq hz hS => ?_)
  have w45 : s.heap.size ≤ q37 := by have := hS0.1; omega
  have g46 : ∀ x, x < s.heap.size → G38 x = G x := fun x h9 => (l42 x (Nat.lt_of_lt_of_le h9 hS0.1)).trans (g33 x h9)
  have va := va_at.kept va (oq _ (hw_lt va))
  have k47 := hw_kg2 m40 k34 (by decide)
  have k48 := hw_kg m39 k35 (by decide) (by decide)
  have k49 := hw_kg m39 k36 (by decide) (by decide)
  have k50 := hw_kg m39 k28 (by decide) (by decide)
  refine hw_putF (v := .ref q37) (fs' := [.int 0, .int 0, .int 0, .ref q1, .ref q12, .ref q24, .ref q37]) hx hb ff_21_8 hnm hK hH va (Nat.le_of_ble_eq_true rfl) rfl rfl rfl (fun _ => by rw [k47]; exact (show hw_ok D.2.1 G38 107 _ from ⟨_, rfl⟩)) hS (hw_AWi2 g46 k47 (by decide)) dX9_init_31 (fun H locs hH va oq hz hS => ?_)
  have R51 : hw_RS G38 (fun i9 => [0, 0, 0, q1, q12, q24, q37].getD i9 0) := ⟨k48, k49, k50, k41⟩
  obtain ⟨hH9, hm9⟩ := hw_HT.rekind (k := 7) hH (by rw [k47]; decide) va (show hw_OS G38 _ from ⟨(fun i9 => [0, 0, 0, q1, q12, q24, q37].getD i9 0), 0, 0, 0, rfl, R51⟩)
  refine W.widen (k := 4) (n := 20) (by first | decide | omega) (by first | decide | omega) ?_
  exact hw_vretM hx hb hr hlocks hQ hS ⟨(va_up G38 h0 7), (fun i9 => [0, 0, 0, q1, q12, q24, q37].getD i9 0), rfl, hH9, (fun q9 h9 n9 => (va_up_ne _ _ n9).trans (g46 q9 h9)), (va_up_self _ _ _), (hw_RS_mono hm9 R51), va⟩ dX9_init_34

set_option maxHeartbeats 4000000 in
set_option maxRecDepth 100000 in
theorem k_X10_init (l : Launch) (D : hw_D) (G : Nat → Nat) (h0 : Nat) (sz : Nat) (G0 : G h0 = 108) : Met l yX10_init wsX10_init ({ frames := 1, cells := 3, slots := 300, locals := 12 } : Room) (hw_PC D G [.ref h0] sz (fun H => va_at D.1 vwCl (h0, .inr (9, [.null, .int 0, .int 0, .null, .null, .int 0, .int 0, .int 0, .int 0, .int 0])) H)) (hw_QM (fun v H => ∃ (G2 : Nat → Nat) (r2 : Nat → Nat), v = none ∧ hw_HT D G2 H ∧ (∀ q, q < sz → q ≠ h0 → G2 q = G q) ∧ G2 h0 = 8 ∧ hw_RT G2 r2 ∧ va_at D.1 vwCl (h0, .inr (9, hw_LT r2 0 0 0 0 0 0 0)) H) (hw_AW G [108] sz)) 3 300 (hw_AW G [108] sz) := by
  refine hw_met (cc := cX10_init) (maxL := 1) (ret := none) (plainFor_of_name (by decide)) rfl (Nat.le_of_ble_eq_true rfl) ?_
  intro p e s m args below meth c QQ ls hsz hx hb hml hr hts hown hlocks hnm hH hK hST hF hQ hl
  subst hsz
  have hS : va_S (hw_AW G [108] s.heap.size) s.heap s.heap [] := va_S.rf
  have va := hF
  have hl : lv_has ls 1 [(0, .ref h0)] := hl
  have u_9 : ∀ w ∈ u_ws RX10 TX10 10, w.before args s = true := fun w hw => hts w ((by decide +kernel : ∀ w ∈ u_ws RX10 TX10 10, w ∈ wsX10_init) w hw)
  have ff_11_9 : hw_FP s args m 11 9 0 true (.array .int) := ⟨RX10, "WardWalkers$Text", RX10, TX10, 10, tyX10, u_9, hown, rfl, by decide, (hts (.fieldLink RX10 11 "WardWalkers$Text" "letters" "[I") (by decide +kernel)), (fun _ h9 => h9), tyX10_ok, nmX10, rfl, fun _ => rfl, by decide +kernel⟩
  have ff_15_9 : hw_FP s args m 15 9 3 true (.array .int) := ⟨RX10, "WardWalkers$Text", RX10, TX10, 10, tyX10, u_9, hown, rfl, by decide, (hts (.fieldLink RX10 15 "WardWalkers$Text" "words" "[I") (by decide +kernel)), (fun _ h9 => h9), tyX10_ok, nmX10, rfl, fun _ => rfl, by decide +kernel⟩
  have ff_18_9 : hw_FP s args m 18 9 4 true (.array .int) := ⟨RX10, "WardWalkers$Text", RX10, TX10, 10, tyX10, u_9, hown, rfl, by decide, (hts (.fieldLink RX10 18 "WardWalkers$Text" "numbers" "[I") (by decide +kernel)), (fun _ h9 => h9), tyX10_ok, nmX10, rfl, fun _ => rfl, by decide +kernel⟩
  have hHs := hH
  refine lv_aload_n hx hb dX10_init_0 rfl (lv_at hl 0 rfl) ?_
  refine W.objInit hx hb hown (hts (.methodLink RX10 3 objectInit) (by decide +kernel)) (hts (.instanceMethod objectInit) (by decide +kernel)) (hts (.code objectInit ⟨#[0xb1]⟩ 1 none) (by decide +kernel)) rfl (by rw [hml]; exact hl.1) rfl dX10_init_1 (Nat.le_of_ble_eq_true rfl) (Nat.le_of_ble_eq_true rfl) ?_
  refine W.eq (g2 := F0 m 4 ls []) rfl ?_
  refine lv_aload_n hx hb dX10_init_4 rfl (lv_at hl 0 rfl) ?_
  refine lv_sipush (v := 200) hx hb dX10_init_5 (by decide) ?_
  have hS0 := hS
  refine hw_newa hx hb 24 (atype := .int) (hts (.arrayClass .int) (by decide +kernel)) (ty := .int) rfl (t := 0) rfl (fun _ h9 => h9) hK hH hS (n := 200) (N := 200) (200, .inl (fun _ => 0)) (fun _ => rfl) (show hw_ok D.2.1 G 24 _ from ⟨_, rfl⟩) (by decide) (by decide) (by decide) (Nat.le_of_ble_eq_true rfl) (Nat.le_of_ble_eq_true rfl) dX10_init_8 (fun q1 G2 H hH m3 m4 k5 l6 e7 v8 oq hz hS => ?_)
  have w9 : s.heap.size ≤ q1 := by have := hS0.1; omega
  have g10 : ∀ x, x < s.heap.size → G2 x = G x := fun x h9 => (l6 x (Nat.lt_of_lt_of_le h9 hS0.1)).trans ((fun _ _ => rfl) x h9)
  have va := va_at.kept va (oq _ (hw_lt va))
  have k11 := hw_kg2 m4 G0 (by decide)
  refine hw_putF (v := .ref q1) (fs' := [.ref q1, .int 0, .int 0, .null, .null, .int 0, .int 0, .int 0, .int 0, .int 0]) hx hb ff_11_9 hnm hK hH va (Nat.le_of_ble_eq_true rfl) rfl rfl rfl (fun _ => by rw [k11]; exact (show hw_ok D.2.1 G2 108 _ from ⟨_, rfl⟩)) hS (hw_AWi2 g10 k11 (by decide)) dX10_init_10 (fun H locs hH va oq hz hS => ?_)
  refine lv_aload_n hx hb dX10_init_13 rfl (lv_at hl 0 rfl) ?_
  refine lv_bipush (v := 20) hx hb dX10_init_14 (by decide) ?_
  have hS0 := hS
  refine hw_newa hx hb 25 (atype := .int) (hts (.arrayClass .int) (by decide +kernel)) (ty := .int) rfl (t := 0) rfl (fun _ h9 => h9) hK hH hS (n := 20) (N := 20) (20, .inl (fun _ => 0)) (fun _ => rfl) (show hw_ok D.2.1 G2 25 _ from ⟨_, rfl⟩) (by decide) (by decide) (by decide) (Nat.le_of_ble_eq_true rfl) (Nat.le_of_ble_eq_true rfl) dX10_init_16 (fun q12 G13 H hH m14 m15 k16 l17 e18 v19 oq hz hS => ?_)
  have w20 : s.heap.size ≤ q12 := by have := hS0.1; omega
  have g21 : ∀ x, x < s.heap.size → G13 x = G x := fun x h9 => (l17 x (Nat.lt_of_lt_of_le h9 hS0.1)).trans (g10 x h9)
  have va := va_at.kept va (oq _ (hw_lt va))
  have k22 := hw_kg2 m15 k11 (by decide)
  have k23 := hw_kg m14 k5 (by decide) (by decide)
  refine hw_putF (v := .ref q12) (fs' := [.ref q1, .int 0, .int 0, .ref q12, .null, .int 0, .int 0, .int 0, .int 0, .int 0]) hx hb ff_15_9 hnm hK hH va (Nat.le_of_ble_eq_true rfl) rfl rfl rfl (fun _ => by rw [k22]; exact (show hw_ok D.2.1 G13 108 _ from ⟨_, rfl⟩)) hS (hw_AWi2 g21 k22 (by decide)) dX10_init_18 (fun H locs hH va oq hz hS => ?_)
  refine lv_aload_n hx hb dX10_init_21 rfl (lv_at hl 0 rfl) ?_
  refine lv_bipush (v := 80) hx hb dX10_init_22 (by decide) ?_
  have hS0 := hS
  refine hw_newa hx hb 26 (atype := .int) (hts (.arrayClass .int) (by decide +kernel)) (ty := .int) rfl (t := 0) rfl (fun _ h9 => h9) hK hH hS (n := 80) (N := 80) (80, .inl (fun _ => 0)) (fun _ => rfl) (show hw_ok D.2.1 G13 26 _ from ⟨_, rfl⟩) (by decide) (by decide) (by decide) (Nat.le_of_ble_eq_true rfl) (Nat.le_of_ble_eq_true rfl) dX10_init_24 (fun q24 G25 H hH m26 m27 k28 l29 e30 v31 oq hz hS => ?_)
  have w32 : s.heap.size ≤ q24 := by have := hS0.1; omega
  have g33 : ∀ x, x < s.heap.size → G25 x = G x := fun x h9 => (l29 x (Nat.lt_of_lt_of_le h9 hS0.1)).trans (g21 x h9)
  have va := va_at.kept va (oq _ (hw_lt va))
  have k34 := hw_kg2 m27 k22 (by decide)
  have k35 := hw_kg m26 k23 (by decide) (by decide)
  have k36 := hw_kg m26 k16 (by decide) (by decide)
  refine hw_putF (v := .ref q24) (fs' := [.ref q1, .int 0, .int 0, .ref q12, .ref q24, .int 0, .int 0, .int 0, .int 0, .int 0]) hx hb ff_18_9 hnm hK hH va (Nat.le_of_ble_eq_true rfl) rfl rfl rfl (fun _ => by rw [k34]; exact (show hw_ok D.2.1 G25 108 _ from ⟨_, rfl⟩)) hS (hw_AWi2 g33 k34 (by decide)) dX10_init_26 (fun H locs hH va oq hz hS => ?_)
  have R37 : hw_RT G25 (fun i9 => [q1, 0, 0, q12, q24, 0, 0, 0, 0, 0].getD i9 0) := ⟨k35, k36, k28⟩
  obtain ⟨hH9, hm9⟩ := hw_HT.rekind (k := 8) hH (by rw [k34]; decide) va (show hw_OT G25 _ from ⟨(fun i9 => [q1, 0, 0, q12, q24, 0, 0, 0, 0, 0].getD i9 0), 0, 0, 0, 0, 0, 0, 0, rfl, R37, ⟨by decide, by decide⟩, ⟨by decide, by decide⟩, ⟨by decide, by decide⟩, ⟨by decide, by decide⟩⟩)
  refine W.widen (k := 3) (n := 300) (by first | decide | omega) (by first | decide | omega) ?_
  exact hw_vretM hx hb hr hlocks hQ hS ⟨(va_up G25 h0 8), (fun i9 => [q1, 0, 0, q12, q24, 0, 0, 0, 0, 0].getD i9 0), rfl, hH9, (fun q9 h9 n9 => (va_up_ne _ _ n9).trans (g33 q9 h9)), (va_up_self _ _ _), (hw_RT_mono hm9 R37), va⟩ dX10_init_29

set_option maxHeartbeats 4000000 in
set_option maxRecDepth 100000 in
theorem k_X1_addKey (l : Launch) (D : hw_D) (G : Nat → Nat) (h0 : Nat) (p1 : Nat) (sz : Nat) (G0 : G h0 = 2) (G1 : G p1 = 3) : Met l yX1_addKey wsX1_addKey ({ frames := 0, cells := 0, slots := 0, locals := 0 } : Room) (hw_PC D G [.ref h0, .ref p1] sz (fun H => True)) (hw_QM (fun v H => v = none ∧ hw_HT D G H) (hw_AW G [2, 10] sz)) 0 0 (hw_AW G [2, 10] sz) := by
  refine hw_met (cc := cX1_addKey) (maxL := 2) (ret := none) (plainFor_of_name (by decide)) rfl (Nat.le_of_ble_eq_true rfl) ?_
  intro p e s m args below meth c QQ ls hsz hx hb hml hr hts hown hlocks hnm hH hK hST hF hQ hl
  subst hsz
  have hS : va_S (hw_AW G [2, 10] s.heap.size) s.heap s.heap [] := va_S.rf
  have hl : lv_has ls 2 [(0, .ref h0), (1, .ref p1)] := hl
  have u_1 : ∀ w ∈ u_ws RX1 TX1 7, w.before args s = true := fun w hw => hts w ((by decide +kernel : ∀ w ∈ u_ws RX1 TX1 7, w ∈ wsX1_addKey) w hw)
  have fg_31_1 : hw_FG s args m 31 1 1 := ⟨RX1, "WardWalkers$Country", RX1, TX1, 7, u_1, hown, rfl, by decide, (hts (.fieldLink RX1 31 "WardWalkers$Country" "keyCount" "I") (by decide +kernel)), (fun _ h9 => h9)⟩
  have fg_11_1 : hw_FG s args m 11 1 0 := ⟨RX1, "WardWalkers$Country", RX1, TX1, 7, u_1, hown, rfl, by decide, (hts (.fieldLink RX1 11 "WardWalkers$Country" "keys" "[LWardWalkers$Key;") (by decide +kernel)), (fun _ h9 => h9)⟩
  have fp_31_1 : hw_FP s args m 31 1 1 false .int := ⟨RX1, "WardWalkers$Country", RX1, TX1, 7, tyX1, u_1, hown, rfl, by decide, (hts (.fieldLink RX1 31 "WardWalkers$Country" "keyCount" "I") (by decide +kernel)), (fun _ h9 => h9), tyX1_ok, nmX1, rfl, (fun h => by cases h), by decide +kernel⟩
  refine lv_aload_n hx hb dX1_addKey_0 rfl (lv_at hl 0 rfl) ?_
  obtain ⟨r1, kc_2, lc_3, wc_4, dk_5, v6, R7, g8, g9, g10⟩ := hH.oC G0
  refine hw_get hx hb fg_31_1 hK v6 rfl dX1_addKey_1 ?_
  refine lv_bipush (v := 7) hx hb dX1_addKey_4 (by decide) ?_
  refine lv_icmp_ge (tgt := 29) hx hb dX1_addKey_6 (by decide) (fun c11 => ?_) (fun c11 => ?_)
  · have b12 : 7 ≤ kc_2.toInt := hw_ile c11
    exact hw_vretM hx hb hr hlocks hQ hS (⟨rfl, hH⟩) dX1_addKey_29
  · have b13 : kc_2.toInt < 7 := hw_inle c11
    refine lv_aload_n hx hb dX1_addKey_9 rfl (lv_at hl 0 rfl) ?_
    refine hw_get hx hb fg_11_1 hK v6 rfl dX1_addKey_10 ?_
    refine lv_aload_n hx hb dX1_addKey_13 rfl (lv_at hl 0 rfl) ?_
    refine hw_get hx hb fg_31_1 hK v6 rfl dX1_addKey_14 ?_
    refine lv_aload_n hx hb dX1_addKey_17 rfl (lv_at hl 1 rfl) ?_
    obtain ⟨ci14, cu15, mk16, c18, v17⟩ := hH.oKey G1
    rcases c18 with rfl | rfl | rfl | rfl
    · obtain ⟨f19, v20, q21⟩ := hH.a10 (hw_RC_0 R7)
      refine hw_aast (t := 3) (ci := 0) (q := (RX0, TX0, 2)) hx hb hK hH v20 rfl v17 rfl (vb_asgC (hw_ec_X0_X3 hST.ex)) (hw_in (by omega) (by omega)) (fun _ => by rw [(hw_RC_0 R7)]; exact ⟨_, rfl, hw_upq q21 G1⟩) hS (hw_AWi (hw_RC_0 R7) (by decide)) dX1_addKey_18 (fun H locs hH v20 oq hz hS => ?_)
      have v6 := va_at.kept v6 (oq _ (hw_ne G0 (hw_RC_0 R7) (by decide)))
      have v17 := va_at.kept v17 (oq _ (hw_ne G1 (hw_RC_0 R7) (by decide)))
      refine lv_aload_n hx hb dX1_addKey_19 rfl (lv_at hl 0 rfl) ?_
      refine lv_dup hx hb dX1_addKey_20 rfl ?_
      refine hw_get hx hb fg_31_1 hK v6 rfl dX1_addKey_21 ?_
      refine lv_iconst (v := 1) hx hb dX1_addKey_24 (by decide) ?_
      refine lv_iadd hx hb dX1_addKey_25 ?_
      refine lv_topi (fun x22 e23 => ?_)
      have t24 : x22.toInt = kc_2.toInt + 1 := by rw [e23]; exact hw_add rfl rfl (by omega) (by omega)
      refine hw_put (v := .int x22) (fs' := hw_LC r1 x22 lc_3 wc_4 dk_5) hx hb fp_31_1 hK hH v6 (Nat.le_of_ble_eq_true rfl) rfl rfl rfl (fun _ => by rw [G0]; exact ⟨r1, x22, lc_3, wc_4, dk_5, rfl, R7, ⟨by first | decide | omega, by first | decide | omega⟩, ⟨by first | decide | omega, by first | decide | omega⟩, ⟨by first | decide | omega, by first | decide | omega⟩⟩) hS (hw_AWi G0 (by decide)) dX1_addKey_26 (fun H locs hH v6 oq hz hS => ?_)
      have v17 := va_at.kept v17 (oq _ (hw_ne G1 G0 (by decide)))
      exact hw_vretM hx hb hr hlocks hQ hS (⟨rfl, hH⟩) dX1_addKey_29
    · obtain ⟨f25, v26, q27⟩ := hH.a10 (hw_RC_0 R7)
      refine hw_aast (t := 3) (ci := 2) (q := (RX2, TX2, 2)) hx hb hK hH v26 rfl v17 rfl (vb_asgC (hw_ec_X2_X3 hST.ex)) (hw_in (by omega) (by omega)) (fun _ => by rw [(hw_RC_0 R7)]; exact ⟨_, rfl, hw_upq q27 G1⟩) hS (hw_AWi (hw_RC_0 R7) (by decide)) dX1_addKey_18 (fun H locs hH v26 oq hz hS => ?_)
      have v6 := va_at.kept v6 (oq _ (hw_ne G0 (hw_RC_0 R7) (by decide)))
      have v17 := va_at.kept v17 (oq _ (hw_ne G1 (hw_RC_0 R7) (by decide)))
      refine lv_aload_n hx hb dX1_addKey_19 rfl (lv_at hl 0 rfl) ?_
      refine lv_dup hx hb dX1_addKey_20 rfl ?_
      refine hw_get hx hb fg_31_1 hK v6 rfl dX1_addKey_21 ?_
      refine lv_iconst (v := 1) hx hb dX1_addKey_24 (by decide) ?_
      refine lv_iadd hx hb dX1_addKey_25 ?_
      refine lv_topi (fun x28 e29 => ?_)
      have t30 : x28.toInt = kc_2.toInt + 1 := by rw [e29]; exact hw_add rfl rfl (by omega) (by omega)
      refine hw_put (v := .int x28) (fs' := hw_LC r1 x28 lc_3 wc_4 dk_5) hx hb fp_31_1 hK hH v6 (Nat.le_of_ble_eq_true rfl) rfl rfl rfl (fun _ => by rw [G0]; exact ⟨r1, x28, lc_3, wc_4, dk_5, rfl, R7, ⟨by first | decide | omega, by first | decide | omega⟩, ⟨by first | decide | omega, by first | decide | omega⟩, ⟨by first | decide | omega, by first | decide | omega⟩⟩) hS (hw_AWi G0 (by decide)) dX1_addKey_26 (fun H locs hH v6 oq hz hS => ?_)
      have v17 := va_at.kept v17 (oq _ (hw_ne G1 G0 (by decide)))
      exact hw_vretM hx hb hr hlocks hQ hS (⟨rfl, hH⟩) dX1_addKey_29
    · obtain ⟨f31, v32, q33⟩ := hH.a10 (hw_RC_0 R7)
      refine hw_aast (t := 3) (ci := 4) (q := (RX5, TX5, 2)) hx hb hK hH v32 rfl v17 rfl (vb_asgC (hw_ec_X5_X3 hST.ex)) (hw_in (by omega) (by omega)) (fun _ => by rw [(hw_RC_0 R7)]; exact ⟨_, rfl, hw_upq q33 G1⟩) hS (hw_AWi (hw_RC_0 R7) (by decide)) dX1_addKey_18 (fun H locs hH v32 oq hz hS => ?_)
      have v6 := va_at.kept v6 (oq _ (hw_ne G0 (hw_RC_0 R7) (by decide)))
      have v17 := va_at.kept v17 (oq _ (hw_ne G1 (hw_RC_0 R7) (by decide)))
      refine lv_aload_n hx hb dX1_addKey_19 rfl (lv_at hl 0 rfl) ?_
      refine lv_dup hx hb dX1_addKey_20 rfl ?_
      refine hw_get hx hb fg_31_1 hK v6 rfl dX1_addKey_21 ?_
      refine lv_iconst (v := 1) hx hb dX1_addKey_24 (by decide) ?_
      refine lv_iadd hx hb dX1_addKey_25 ?_
      refine lv_topi (fun x34 e35 => ?_)
      have t36 : x34.toInt = kc_2.toInt + 1 := by rw [e35]; exact hw_add rfl rfl (by omega) (by omega)
      refine hw_put (v := .int x34) (fs' := hw_LC r1 x34 lc_3 wc_4 dk_5) hx hb fp_31_1 hK hH v6 (Nat.le_of_ble_eq_true rfl) rfl rfl rfl (fun _ => by rw [G0]; exact ⟨r1, x34, lc_3, wc_4, dk_5, rfl, R7, ⟨by first | decide | omega, by first | decide | omega⟩, ⟨by first | decide | omega, by first | decide | omega⟩, ⟨by first | decide | omega, by first | decide | omega⟩⟩) hS (hw_AWi G0 (by decide)) dX1_addKey_26 (fun H locs hH v6 oq hz hS => ?_)
      have v17 := va_at.kept v17 (oq _ (hw_ne G1 G0 (by decide)))
      exact hw_vretM hx hb hr hlocks hQ hS (⟨rfl, hH⟩) dX1_addKey_29
    · obtain ⟨f37, v38, q39⟩ := hH.a10 (hw_RC_0 R7)
      refine hw_aast (t := 3) (ci := 7) (q := (RX8, TX8, 2)) hx hb hK hH v38 rfl v17 rfl (vb_asgC (hw_ec_X8_X3 hST.ex)) (hw_in (by omega) (by omega)) (fun _ => by rw [(hw_RC_0 R7)]; exact ⟨_, rfl, hw_upq q39 G1⟩) hS (hw_AWi (hw_RC_0 R7) (by decide)) dX1_addKey_18 (fun H locs hH v38 oq hz hS => ?_)
      have v6 := va_at.kept v6 (oq _ (hw_ne G0 (hw_RC_0 R7) (by decide)))
      have v17 := va_at.kept v17 (oq _ (hw_ne G1 (hw_RC_0 R7) (by decide)))
      refine lv_aload_n hx hb dX1_addKey_19 rfl (lv_at hl 0 rfl) ?_
      refine lv_dup hx hb dX1_addKey_20 rfl ?_
      refine hw_get hx hb fg_31_1 hK v6 rfl dX1_addKey_21 ?_
      refine lv_iconst (v := 1) hx hb dX1_addKey_24 (by decide) ?_
      refine lv_iadd hx hb dX1_addKey_25 ?_
      refine lv_topi (fun x40 e41 => ?_)
      have t42 : x40.toInt = kc_2.toInt + 1 := by rw [e41]; exact hw_add rfl rfl (by omega) (by omega)
      refine hw_put (v := .int x40) (fs' := hw_LC r1 x40 lc_3 wc_4 dk_5) hx hb fp_31_1 hK hH v6 (Nat.le_of_ble_eq_true rfl) rfl rfl rfl (fun _ => by rw [G0]; exact ⟨r1, x40, lc_3, wc_4, dk_5, rfl, R7, ⟨by first | decide | omega, by first | decide | omega⟩, ⟨by first | decide | omega, by first | decide | omega⟩, ⟨by first | decide | omega, by first | decide | omega⟩⟩) hS (hw_AWi G0 (by decide)) dX1_addKey_26 (fun H locs hH v6 oq hz hS => ?_)
      have v17 := va_at.kept v17 (oq _ (hw_ne G1 G0 (by decide)))
      exact hw_vretM hx hb hr hlocks hQ hS (⟨rfl, hH⟩) dX1_addKey_29

set_option maxHeartbeats 4000000 in
set_option maxRecDepth 100000 in
theorem k_X1_addLock (l : Launch) (D : hw_D) (G : Nat → Nat) (h0 : Nat) (p1 : Nat) (sz : Nat) (G0 : G h0 = 2) (G1 : G p1 = 4) : Met l yX1_addLock wsX1_addLock ({ frames := 0, cells := 0, slots := 0, locals := 0 } : Room) (hw_PC D G [.ref h0, .ref p1] sz (fun H => True)) (hw_QM (fun v H => v = none ∧ hw_HT D G H) (hw_AW G [2, 11] sz)) 0 0 (hw_AW G [2, 11] sz) := by
  refine hw_met (cc := cX1_addLock) (maxL := 2) (ret := none) (plainFor_of_name (by decide)) rfl (Nat.le_of_ble_eq_true rfl) ?_
  intro p e s m args below meth c QQ ls hsz hx hb hml hr hts hown hlocks hnm hH hK hST hF hQ hl
  subst hsz
  have hS : va_S (hw_AW G [2, 11] s.heap.size) s.heap s.heap [] := va_S.rf
  have hl : lv_has ls 2 [(0, .ref h0), (1, .ref p1)] := hl
  have u_1 : ∀ w ∈ u_ws RX1 TX1 7, w.before args s = true := fun w hw => hts w ((by decide +kernel : ∀ w ∈ u_ws RX1 TX1 7, w ∈ wsX1_addLock) w hw)
  have fg_34_1 : hw_FG s args m 34 1 3 := ⟨RX1, "WardWalkers$Country", RX1, TX1, 7, u_1, hown, rfl, by decide, (hts (.fieldLink RX1 34 "WardWalkers$Country" "lockCount" "I") (by decide +kernel)), (fun _ h9 => h9)⟩
  have fg_19_1 : hw_FG s args m 19 1 2 := ⟨RX1, "WardWalkers$Country", RX1, TX1, 7, u_1, hown, rfl, by decide, (hts (.fieldLink RX1 19 "WardWalkers$Country" "locks" "[LWardWalkers$Lock;") (by decide +kernel)), (fun _ h9 => h9)⟩
  have fp_34_1 : hw_FP s args m 34 1 3 false .int := ⟨RX1, "WardWalkers$Country", RX1, TX1, 7, tyX1, u_1, hown, rfl, by decide, (hts (.fieldLink RX1 34 "WardWalkers$Country" "lockCount" "I") (by decide +kernel)), (fun _ h9 => h9), tyX1_ok, nmX1, rfl, (fun h => by cases h), by decide +kernel⟩
  refine lv_aload_n hx hb dX1_addLock_0 rfl (lv_at hl 0 rfl) ?_
  obtain ⟨r1, kc_2, lc_3, wc_4, dk_5, v6, R7, g8, g9, g10⟩ := hH.oC G0
  refine hw_get hx hb fg_34_1 hK v6 rfl dX1_addLock_1 ?_
  refine lv_bipush (v := 7) hx hb dX1_addLock_4 (by decide) ?_
  refine lv_icmp_ge (tgt := 29) hx hb dX1_addLock_6 (by decide) (fun c11 => ?_) (fun c11 => ?_)
  · have b12 : 7 ≤ lc_3.toInt := hw_ile c11
    exact hw_vretM hx hb hr hlocks hQ hS (⟨rfl, hH⟩) dX1_addLock_29
  · have b13 : lc_3.toInt < 7 := hw_inle c11
    refine lv_aload_n hx hb dX1_addLock_9 rfl (lv_at hl 0 rfl) ?_
    refine hw_get hx hb fg_19_1 hK v6 rfl dX1_addLock_10 ?_
    refine lv_aload_n hx hb dX1_addLock_13 rfl (lv_at hl 0 rfl) ?_
    refine hw_get hx hb fg_34_1 hK v6 rfl dX1_addLock_14 ?_
    refine lv_aload_n hx hb dX1_addLock_17 rfl (lv_at hl 1 rfl) ?_
    obtain ⟨f14, v15, q16⟩ := hH.a11 (hw_RC_2 R7)
    obtain ⟨r17, pl_18, wa_19, py_20, va_21, v22⟩ := hH.oL G1
    refine hw_aast (t := 4) (ci := 3) (q := (RX4, TX4, 4)) hx hb hK hH v15 rfl v22 rfl (fun comp c0 h1 h2 => by cases h1.symm.trans h2; exact va_asg _ _) (hw_in (by omega) (by omega)) (fun _ => by rw [(hw_RC_2 R7)]; exact ⟨_, rfl, hw_upq q16 G1⟩) hS (hw_AWi (hw_RC_2 R7) (by decide)) dX1_addLock_18 (fun H locs hH v15 oq hz hS => ?_)
    have v6 := va_at.kept v6 (oq _ (hw_ne G0 (hw_RC_2 R7) (by decide)))
    have v22 := va_at.kept v22 (oq _ (hw_ne G1 (hw_RC_2 R7) (by decide)))
    refine lv_aload_n hx hb dX1_addLock_19 rfl (lv_at hl 0 rfl) ?_
    refine lv_dup hx hb dX1_addLock_20 rfl ?_
    refine hw_get hx hb fg_34_1 hK v6 rfl dX1_addLock_21 ?_
    refine lv_iconst (v := 1) hx hb dX1_addLock_24 (by decide) ?_
    refine lv_iadd hx hb dX1_addLock_25 ?_
    refine lv_topi (fun x24 e25 => ?_)
    have t26 : x24.toInt = lc_3.toInt + 1 := by rw [e25]; exact hw_add rfl rfl (by omega) (by omega)
    refine hw_put (v := .int x24) (fs' := hw_LC r1 kc_2 x24 wc_4 dk_5) hx hb fp_34_1 hK hH v6 (Nat.le_of_ble_eq_true rfl) rfl rfl rfl (fun _ => by rw [G0]; exact ⟨r1, kc_2, x24, wc_4, dk_5, rfl, R7, ⟨by first | decide | omega, by first | decide | omega⟩, ⟨by first | decide | omega, by first | decide | omega⟩, ⟨by first | decide | omega, by first | decide | omega⟩⟩) hS (hw_AWi G0 (by decide)) dX1_addLock_26 (fun H locs hH v6 oq hz hS => ?_)
    have v22 := va_at.kept v22 (oq _ (hw_ne G1 G0 (by decide)))
    exact hw_vretM hx hb hr hlocks hQ hS (⟨rfl, hH⟩) dX1_addLock_29

set_option maxHeartbeats 4000000 in
set_option maxRecDepth 100000 in
theorem k_X11_tell (l : Launch) (D : hw_D) (G : Nat → Nat) (h0 : Nat) (p1 : Int32) (sz : Nat) (G0 : G h0 = 1) : Met l yX11_tell wsX11_tell ({ frames := 4, cells := 1, slots := 4, locals := 78 } : Room) (hw_PC D G [.ref h0, .int p1] sz (fun H => True)) (hw_QM (fun v H => ∃ (G2 : Nat → Nat), v = none ∧ hw_HT D G2 H ∧ (∀ q, q < sz → G2 q = G q)) (hw_AW G [2, 10, 11, 12, 103, 104] sz)) 1 4 (hw_AW G [2, 10, 11, 12, 103, 104] sz) := by
  refine hw_met (cc := cX11_tell) (maxL := 5) (ret := none) (plainFor_of_name (by decide)) rfl (Nat.le_of_ble_eq_true rfl) ?_
  intro p e s m args below meth c QQ ls hsz hx hb hml hr hts hown hlocks hnm hH hK hST hF hQ hl
  subst hsz
  have hS : va_S (hw_AW G [2, 10, 11, 12, 103, 104] s.heap.size) s.heap s.heap [] := va_S.rf
  have hl : lv_has ls 5 [(0, .ref h0), (1, .int p1)] := hl
  have u_10 : ∀ w ∈ u_ws RX11 TX11 14, w.before args s = true := fun w hw => hts w ((by decide +kernel : ∀ w ∈ u_ws RX11 TX11 14, w ∈ wsX11_tell) w hw)
  have fg_19_10 : hw_FG s args m 19 10 1 := ⟨RX11, "WardWalkers", RX11, TX11, 14, u_10, hown, rfl, by decide, (hts (.fieldLink RX11 19 "WardWalkers" "text" "LWardWalkers$Text;") (by decide +kernel)), (fun _ h9 => h9)⟩
  have fg_10_10 : hw_FG s args m 10 10 0 := ⟨RX11, "WardWalkers", RX11, TX11, 14, u_10, hown, rfl, by decide, (hts (.fieldLink RX11 10 "WardWalkers" "country" "LWardWalkers$Country;") (by decide +kernel)), (fun _ h9 => h9)⟩
  have u_1 : ∀ w ∈ u_ws RX1 TX1 7, w.before args s = true := fun w hw => hts w ((by decide +kernel : ∀ w ∈ u_ws RX1 TX1 7, w ∈ wsX11_tell) w hw)
  have fp_177_1 : hw_FP s args m 177 1 6 false .int := ⟨RX11, "WardWalkers$Country", RX1, TX1, 7, tyX1, u_1, hown, rfl, by decide, (hts (.fieldLink RX11 177 "WardWalkers$Country" "dark" "I") (by decide +kernel)), (fun _ h9 => h9), tyX1_ok, nmX1, rfl, (fun h => by cases h), by decide +kernel⟩
  have hHs := hH
  refine lv_aload_n hx hb dX11_tell_0 rfl (lv_at hl 0 rfl) ?_
  obtain ⟨r1, pn_2, pc_3, ks_4, sc_5, v6, R7, g8⟩ := hH.oX G0
  refine hw_get hx hb fg_19_10 hK v6 rfl dX11_tell_1 ?_
  refine lv_iload_n hx hb dX11_tell_4 rfl (lv_at hl 1 rfl) ?_
  obtain ⟨r9, ln_10, cl_11, st_12, en_13, kf_14, lf_15, wf_16, v17, R18, g19, g20, g21, g22⟩ := hH.oT (hw_RX_1 R7)
  refine hw_cR (va_runV (As := [.int p1]) (rest := []) ⟨hx, hb, hml, hown, hts⟩ (k_X10_wordOf l D G (r1 1) p1 _ (hw_RX_1 R7)) (cwV 1 hts gX11_tell_X10_wordOf rfl rfl rfl (by decide +kernel) ⟨Nat.le_of_ble_eq_true rfl, Nat.le_of_ble_eq_true rfl⟩) (hw_pV (hw_rc (q := (RX10, TX10, 10)) hK v17 rfl) hH hK hST hS (by decide) (fun _ h => Or.inl h) trivial) rfl rfl hl.1 rfl (lv_room (Nat.le_of_ble_eq_true rfl)) dX11_tell_5 ⟨Nat.le_of_ble_eq_true rfl, Nat.le_of_ble_eq_true rfl⟩) (fun v hp => ?_)
  obtain ⟨x23, rfl⟩ := hp
  refine lv_istore_n (lv' := [(2, .int x23), (0, .ref h0), (1, .int p1)]) hx hb dX11_tell_8 rfl hl (by decide) rfl (fun ls hl => ?_)
  refine lv_aload_n hx hb dX11_tell_9 rfl (lv_at hl 1 rfl) ?_
  refine hw_get hx hb fg_19_10 hK v6 rfl dX11_tell_10 ?_
  refine lv_iload_n hx hb dX11_tell_13 rfl (lv_at hl 2 rfl) ?_
  refine lv_iconst (v := 0) hx hb dX11_tell_14 (by decide) ?_
  refine hw_cR (va_runV (As := [.int p1, .int 0]) (rest := []) ⟨hx, hb, hml, hown, hts⟩ (k_X10_numberOf l D G (r1 1) p1 0 _ (hw_RX_1 R7)) (cwV 2 hts gX11_tell_X10_numberOf rfl rfl rfl (by decide +kernel) ⟨Nat.le_of_ble_eq_true rfl, Nat.le_of_ble_eq_true rfl⟩) (hw_pV (hw_rc (q := (RX10, TX10, 10)) hK v17 rfl) hH hK hST hS (by decide) (fun _ h => Or.inl h) trivial) rfl rfl hl.1 rfl (lv_room (Nat.le_of_ble_eq_true rfl)) dX11_tell_15 ⟨Nat.le_of_ble_eq_true rfl, Nat.le_of_ble_eq_true rfl⟩) (fun v hp => ?_)
  obtain ⟨x24, rfl⟩ := hp
  refine lv_istore_n (lv' := [(3, .int x24), (2, .int x23), (0, .ref h0), (1, .int p1)]) hx hb dX11_tell_18 rfl hl (by decide) rfl (fun ls hl => ?_)
  refine lv_aload_n hx hb dX11_tell_19 rfl (lv_at hl 2 rfl) ?_
  refine hw_get hx hb fg_19_10 hK v6 rfl dX11_tell_20 ?_
  refine lv_iload_n hx hb dX11_tell_23 rfl (lv_at hl 3 rfl) ?_
  refine lv_iconst (v := 1) hx hb dX11_tell_24 (by decide) ?_
  refine hw_cR (va_runV (As := [.int p1, .int 1]) (rest := []) ⟨hx, hb, hml, hown, hts⟩ (k_X10_numberOf l D G (r1 1) p1 1 _ (hw_RX_1 R7)) (cwV 2 hts gX11_tell_X10_numberOf rfl rfl rfl (by decide +kernel) ⟨Nat.le_of_ble_eq_true rfl, Nat.le_of_ble_eq_true rfl⟩) (hw_pV (hw_rc (q := (RX10, TX10, 10)) hK v17 rfl) hH hK hST hS (by decide) (fun _ h => Or.inl h) trivial) rfl rfl hl.1 rfl (lv_room (Nat.le_of_ble_eq_true rfl)) dX11_tell_25 ⟨Nat.le_of_ble_eq_true rfl, Nat.le_of_ble_eq_true rfl⟩) (fun v hp => ?_)
  obtain ⟨x25, rfl⟩ := hp
  refine lv_istore (lv' := [(4, .int x25), (3, .int x24), (2, .int x23), (0, .ref h0), (1, .int p1)]) hx hb dX11_tell_28 hl (by decide) rfl (fun ls hl => ?_)
  refine lv_iload_n hx hb dX11_tell_30 rfl (lv_at hl 2 rfl) ?_
  by_cases w26 : x23.toInt < 0 ∨ 7 < x23.toInt
  · refine lv_tableOut (tgt := 223) hx hb dX11_tell_31 w26 (by decide) ?_
    refine W.widen (k := 1) (n := 4) (by first | decide | omega) (by first | decide | omega) ?_
    exact hw_vretM hx hb hr hlocks hQ hS (⟨G, rfl, hH, (fun _ _ => rfl)⟩) dX11_tell_223
  · rcases (show x23.toInt = 0 ∨ x23.toInt = 1 ∨ x23.toInt = 2 ∨ x23.toInt = 3 ∨ x23.toInt = 4 ∨ x23.toInt = 5 ∨ x23.toInt = 6 ∨ x23.toInt = 7 by omega) with w26 | w26 | w26 | w26 | w26 | w26 | w26 | w26
    · refine lv_tableIn (tgt := 76) (off := 45) hx hb dX11_tell_31 (by omega) (by omega) (by rw [w26]; rfl) (by decide) ?_
      refine lv_aload_n hx hb dX11_tell_76 rfl (lv_at hl 3 rfl) ?_
      refine hw_get hx hb fg_10_10 hK v6 rfl dX11_tell_77 ?_
      obtain ⟨r27, kc_28, lc_29, wc_30, dk_31, v32, R33, g34, g35, g36⟩ := hH.oC (hw_RX_0 R7)
      refine hw_cM0 (va_runV (As := []) (rest := []) ⟨hx, hb, hml, hown, hts⟩ (k_X1_clear l D G (r1 0) _ (hw_RX_0 R7)) (cwV 0 hts gX11_tell_X1_clear rfl rfl rfl (by decide +kernel) ⟨Nat.le_of_ble_eq_true rfl, Nat.le_of_ble_eq_true rfl⟩) (hw_pV (hw_rc (q := (RX1, TX1, 7)) hK v32 rfl) hH hK hST hS (by decide) (fun _ h => Or.inl h) trivial) rfl rfl hl.1 rfl (lv_room (Nat.le_of_ble_eq_true rfl)) dX11_tell_80 ⟨Nat.le_of_ble_eq_true rfl, Nat.le_of_ble_eq_true rfl⟩) hS (hw_AWsub (by decide) (fun _ _ => rfl) hS.1) (fun v H locs hp hz hk hS => ?_)
      obtain ⟨rfl, hH⟩ := hp
      have v6 := va_at.kept v6 (hk _ (hw_lt v6) (hw_AWn G0 (by decide) (hw_lt v6)))
      have v17 := va_at.kept v17 (hk _ (hw_lt v17) (hw_AWn (hw_RX_1 R7) (by decide) (hw_lt v17)))
      refine lv_goto (tgt := 223) hx hb dX11_tell_83 (by decide) ?_
      refine W.widen (k := 1) (n := 4) (by first | decide | omega) (by first | decide | omega) ?_
      exact hw_vretM hx hb hr hlocks hQ hS (⟨G, rfl, hH, (fun _ _ => rfl)⟩) dX11_tell_223
    · refine lv_tableIn (tgt := 86) (off := 55) hx hb dX11_tell_31 (by omega) (by omega) (by rw [w26]; rfl) (by decide) ?_
      refine lv_aload_n hx hb dX11_tell_86 rfl (lv_at hl 3 rfl) ?_
      refine hw_get hx hb fg_10_10 hK v6 rfl dX11_tell_87 ?_
      have hS0 := hS
      refine hw_new hx hb 103 (ci := 0) (C := RX0) (T := TX0) (N := 2) hts (by decide +kernel) tyX0 tyX0_ok hown (hts (.classLink RX11 382 RX0) (by decide +kernel)) (hts (.instantiable RX0 2) (by decide +kernel)) (hts (.initialized RX0) (by decide +kernel)) hK hH hS rfl [.int 0, .int 0] (fun j hj => by rcases (show j = 0 ∨ j = 1 by omega) with rfl | rfl <;> rfl) (show hw_ok D.2.1 G 103 _ from ⟨0, _, by decide, rfl⟩) (Nat.le_of_ble_eq_true rfl) (Nat.le_of_ble_eq_true rfl) dX11_tell_90 (fun q37 G38 H hH m39 m40 k41 l42 e43 v44 oq hz hS => ?_)
      have w45 : s.heap.size ≤ q37 := by have := hS0.1; omega
      have g46 : ∀ x, x < s.heap.size → G38 x = G x := fun x h9 => (l42 x (Nat.lt_of_lt_of_le h9 hS0.1)).trans ((fun _ _ => rfl) x h9)
      have v6 := va_at.kept v6 (oq _ (hw_lt v6))
      have v17 := va_at.kept v17 (oq _ (hw_lt v17))
      have k47 := hw_kg m39 (hw_RX_0 R7) (by decide) (by decide)
      have k48 := hw_kg m39 G0 (by decide) (by decide)
      have R49 := hw_RX_mono m39 R7
      have k50 := hw_kg m39 (hw_RX_1 R7) (by decide) (by decide)
      have R51 := hw_RT_mono m39 R18
      refine lv_dup hx hb dX11_tell_93 rfl ?_
      refine lv_iload_n hx hb dX11_tell_94 rfl (lv_at hl 1 rfl) ?_
      refine lv_iconst (v := 0) hx hb dX11_tell_95 (by decide) ?_
      have hHo := hH
      have hS0 := hS
      refine hw_cM (va_runI (As := [.int x24, .int 0]) (rest := [.ref q37, .ref (r1 0)]) ⟨hx, hb, hml, hown, hts⟩ (k_X0_init l D G38 q37 x24 0 _ k41 0 (by decide)) (cwI 2 hts gX11_tell_X0_init rfl rfl rfl (hts (.initialized RX0) (by decide +kernel)) (hts (.methodLink RX11 384 yX0_init) (by decide +kernel)) (hts (.instanceMethod yX0_init) (by decide +kernel)) rfl (by decide +kernel) ⟨Nat.le_of_ble_eq_true rfl, Nat.le_of_ble_eq_true rfl⟩) (hw_pS hH hK hST hS (by decide) (hw_hG g46) v44) rfl rfl hl.1 rfl (lv_room (Nat.le_of_ble_eq_true rfl)) dX11_tell_96 ⟨Nat.le_of_ble_eq_true rfl, Nat.le_of_ble_eq_true rfl⟩) hS (hw_AWsub (by decide) g46 hS.1) (fun v H locs hp hz hk hS => ?_)
      obtain ⟨G52, rfl, hH, i53, k54⟩ := hp
      have v6 := va_at.kept v6 (hk _ (hw_lt v6) (hw_AWn k48 (by decide) (hw_lt v6)))
      have v17 := va_at.kept v17 (hk _ (hw_lt v17) (hw_AWn k50 (by decide) (hw_lt v17)))
      have m55 : ∀ a, G38 a ≠ 0 → G38 a < 100 → G52 a = G38 a := fun a h0 h1 => i53 a (hHo.lt h0) (fun e => by rw [e, k41] at h1; exact absurd h1 (by decide))
      have g56 : ∀ x, x < s.heap.size → G52 x = G x := fun x h9 => (i53 x (Nat.lt_of_lt_of_le h9 hS0.1) (fun e => by have := w45; omega)).trans (g46 x h9)
      have k57 := hw_kg m55 k47 (by decide) (by decide)
      have k58 := hw_kg m55 k48 (by decide) (by decide)
      have R59 := hw_RX_mono m55 R49
      have k60 := hw_kg m55 k50 (by decide) (by decide)
      have R61 := hw_RT_mono m55 R51
      obtain ⟨r62, kc_63, lc_64, wc_65, dk_66, v67, R68, g69, g70, g71⟩ := hH.oC k57
      refine hw_cM0 (va_runV (As := [.ref q37]) (rest := []) ⟨hx, hb, hml, hown, hts⟩ (k_X1_addKey l D G52 (r1 0) q37 _ k57 k54) (cwV 1 hts gX11_tell_X1_addKey rfl rfl rfl (by decide +kernel) ⟨Nat.le_of_ble_eq_true rfl, Nat.le_of_ble_eq_true rfl⟩) (hw_pV (hw_rc (q := (RX1, TX1, 7)) hK v67 rfl) hH hK hST hS (by decide) (hw_hG g56) trivial) rfl rfl hl.1 rfl (lv_room (Nat.le_of_ble_eq_true rfl)) dX11_tell_99 ⟨Nat.le_of_ble_eq_true rfl, Nat.le_of_ble_eq_true rfl⟩) hS (hw_AWsub (by decide) g56 hS.1) (fun v H locs hp hz hk hS => ?_)
      obtain ⟨rfl, hH⟩ := hp
      have v6 := va_at.kept v6 (hk _ (hw_lt v6) (hw_AWn k58 (by decide) (hw_lt v6)))
      have v17 := va_at.kept v17 (hk _ (hw_lt v17) (hw_AWn k60 (by decide) (hw_lt v17)))
      refine lv_goto (tgt := 223) hx hb dX11_tell_102 (by decide) ?_
      refine W.widen (k := 1) (n := 4) (by first | decide | omega) (by first | decide | omega) ?_
      exact hw_vretM hx hb hr hlocks hQ hS (⟨G52, rfl, hH, g56⟩) dX11_tell_223
    · refine lv_tableIn (tgt := 105) (off := 74) hx hb dX11_tell_31 (by omega) (by omega) (by rw [w26]; rfl) (by decide) ?_
      refine lv_aload_n hx hb dX11_tell_105 rfl (lv_at hl 3 rfl) ?_
      refine hw_get hx hb fg_10_10 hK v6 rfl dX11_tell_106 ?_
      have hS0 := hS
      refine hw_new hx hb 103 (ci := 7) (C := RX8) (T := TX8) (N := 2) hts (by decide +kernel) tyX8 tyX8_ok hown (hts (.classLink RX11 390 RX8) (by decide +kernel)) (hts (.instantiable RX8 2) (by decide +kernel)) (hts (.initialized RX8) (by decide +kernel)) hK hH hS rfl [.int 0, .int 0] (fun j hj => by rcases (show j = 0 ∨ j = 1 by omega) with rfl | rfl <;> rfl) (show hw_ok D.2.1 G 103 _ from ⟨7, _, by decide, rfl⟩) (Nat.le_of_ble_eq_true rfl) (Nat.le_of_ble_eq_true rfl) dX11_tell_109 (fun q72 G73 H hH m74 m75 k76 l77 e78 v79 oq hz hS => ?_)
      have w80 : s.heap.size ≤ q72 := by have := hS0.1; omega
      have g81 : ∀ x, x < s.heap.size → G73 x = G x := fun x h9 => (l77 x (Nat.lt_of_lt_of_le h9 hS0.1)).trans ((fun _ _ => rfl) x h9)
      have v6 := va_at.kept v6 (oq _ (hw_lt v6))
      have v17 := va_at.kept v17 (oq _ (hw_lt v17))
      have k82 := hw_kg m74 (hw_RX_0 R7) (by decide) (by decide)
      have k83 := hw_kg m74 G0 (by decide) (by decide)
      have R84 := hw_RX_mono m74 R7
      have k85 := hw_kg m74 (hw_RX_1 R7) (by decide) (by decide)
      have R86 := hw_RT_mono m74 R18
      refine lv_dup hx hb dX11_tell_112 rfl ?_
      refine lv_iload_n hx hb dX11_tell_113 rfl (lv_at hl 1 rfl) ?_
      refine lv_iload hx hb dX11_tell_114 (lv_at hl 0 rfl) ?_
      have hHo := hH
      have hS0 := hS
      refine hw_cM (va_runI (As := [.int x24, .int x25]) (rest := [.ref q72, .ref (r1 0)]) ⟨hx, hb, hml, hown, hts⟩ (k_X8_init l D G73 q72 x24 x25 _ k76 7 (by decide)) (cwI 2 hts gX11_tell_X8_init rfl rfl rfl (hts (.initialized RX8) (by decide +kernel)) (hts (.methodLink RX11 392 yX8_init) (by decide +kernel)) (hts (.instanceMethod yX8_init) (by decide +kernel)) rfl (by decide +kernel) ⟨Nat.le_of_ble_eq_true rfl, Nat.le_of_ble_eq_true rfl⟩) (hw_pS hH hK hST hS (by decide) (hw_hG g81) v79) rfl rfl hl.1 rfl (lv_room (Nat.le_of_ble_eq_true rfl)) dX11_tell_116 ⟨Nat.le_of_ble_eq_true rfl, Nat.le_of_ble_eq_true rfl⟩) hS (hw_AWsub (by decide) g81 hS.1) (fun v H locs hp hz hk hS => ?_)
      obtain ⟨G87, rfl, hH, i88, k89⟩ := hp
      have v6 := va_at.kept v6 (hk _ (hw_lt v6) (hw_AWn k83 (by decide) (hw_lt v6)))
      have v17 := va_at.kept v17 (hk _ (hw_lt v17) (hw_AWn k85 (by decide) (hw_lt v17)))
      have m90 : ∀ a, G73 a ≠ 0 → G73 a < 100 → G87 a = G73 a := fun a h0 h1 => i88 a (hHo.lt h0) (fun e => by rw [e, k76] at h1; exact absurd h1 (by decide))
      have g91 : ∀ x, x < s.heap.size → G87 x = G x := fun x h9 => (i88 x (Nat.lt_of_lt_of_le h9 hS0.1) (fun e => by have := w80; omega)).trans (g81 x h9)
      have k92 := hw_kg m90 k82 (by decide) (by decide)
      have k93 := hw_kg m90 k83 (by decide) (by decide)
      have R94 := hw_RX_mono m90 R84
      have k95 := hw_kg m90 k85 (by decide) (by decide)
      have R96 := hw_RT_mono m90 R86
      obtain ⟨r97, kc_98, lc_99, wc_100, dk_101, v102, R103, g104, g105, g106⟩ := hH.oC k92
      refine hw_cM0 (va_runV (As := [.ref q72]) (rest := []) ⟨hx, hb, hml, hown, hts⟩ (k_X1_addKey l D G87 (r1 0) q72 _ k92 k89) (cwV 1 hts gX11_tell_X1_addKey rfl rfl rfl (by decide +kernel) ⟨Nat.le_of_ble_eq_true rfl, Nat.le_of_ble_eq_true rfl⟩) (hw_pV (hw_rc (q := (RX1, TX1, 7)) hK v102 rfl) hH hK hST hS (by decide) (hw_hG g91) trivial) rfl rfl hl.1 rfl (lv_room (Nat.le_of_ble_eq_true rfl)) dX11_tell_119 ⟨Nat.le_of_ble_eq_true rfl, Nat.le_of_ble_eq_true rfl⟩) hS (hw_AWsub (by decide) g91 hS.1) (fun v H locs hp hz hk hS => ?_)
      obtain ⟨rfl, hH⟩ := hp
      have v6 := va_at.kept v6 (hk _ (hw_lt v6) (hw_AWn k93 (by decide) (hw_lt v6)))
      have v17 := va_at.kept v17 (hk _ (hw_lt v17) (hw_AWn k95 (by decide) (hw_lt v17)))
      refine lv_goto (tgt := 223) hx hb dX11_tell_122 (by decide) ?_
      refine W.widen (k := 1) (n := 4) (by first | decide | omega) (by first | decide | omega) ?_
      exact hw_vretM hx hb hr hlocks hQ hS (⟨G87, rfl, hH, g91⟩) dX11_tell_223
    · refine lv_tableIn (tgt := 125) (off := 94) hx hb dX11_tell_31 (by omega) (by omega) (by rw [w26]; rfl) (by decide) ?_
      refine lv_aload_n hx hb dX11_tell_125 rfl (lv_at hl 3 rfl) ?_
      refine hw_get hx hb fg_10_10 hK v6 rfl dX11_tell_126 ?_
      have hS0 := hS
      refine hw_new hx hb 103 (ci := 4) (C := RX5) (T := TX5) (N := 2) hts (by decide +kernel) tyX5 tyX5_ok hown (hts (.classLink RX11 194 RX5) (by decide +kernel)) (hts (.instantiable RX5 2) (by decide +kernel)) (hts (.initialized RX5) (by decide +kernel)) hK hH hS rfl [.int 0, .int 0] (fun j hj => by rcases (show j = 0 ∨ j = 1 by omega) with rfl | rfl <;> rfl) (show hw_ok D.2.1 G 103 _ from ⟨4, _, by decide, rfl⟩) (Nat.le_of_ble_eq_true rfl) (Nat.le_of_ble_eq_true rfl) dX11_tell_129 (fun q107 G108 H hH m109 m110 k111 l112 e113 v114 oq hz hS => ?_)
      have w115 : s.heap.size ≤ q107 := by have := hS0.1; omega
      have g116 : ∀ x, x < s.heap.size → G108 x = G x := fun x h9 => (l112 x (Nat.lt_of_lt_of_le h9 hS0.1)).trans ((fun _ _ => rfl) x h9)
      have v6 := va_at.kept v6 (oq _ (hw_lt v6))
      have v17 := va_at.kept v17 (oq _ (hw_lt v17))
      have k117 := hw_kg m109 (hw_RX_0 R7) (by decide) (by decide)
      have k118 := hw_kg m109 G0 (by decide) (by decide)
      have R119 := hw_RX_mono m109 R7
      have k120 := hw_kg m109 (hw_RX_1 R7) (by decide) (by decide)
      have R121 := hw_RT_mono m109 R18
      refine lv_dup hx hb dX11_tell_132 rfl ?_
      refine lv_iload_n hx hb dX11_tell_133 rfl (lv_at hl 1 rfl) ?_
      have hHo := hH
      have hS0 := hS
      refine hw_cM (va_runI (As := [.int x24]) (rest := [.ref q107, .ref (r1 0)]) ⟨hx, hb, hml, hown, hts⟩ (k_X5_init l D G108 q107 x24 _ k111 4 (by decide)) (cwI 1 hts gX11_tell_X5_init rfl rfl rfl (hts (.initialized RX5) (by decide +kernel)) (hts (.methodLink RX11 393 yX5_init) (by decide +kernel)) (hts (.instanceMethod yX5_init) (by decide +kernel)) rfl (by decide +kernel) ⟨Nat.le_of_ble_eq_true rfl, Nat.le_of_ble_eq_true rfl⟩) (hw_pS hH hK hST hS (by decide) (hw_hG g116) v114) rfl rfl hl.1 rfl (lv_room (Nat.le_of_ble_eq_true rfl)) dX11_tell_134 ⟨Nat.le_of_ble_eq_true rfl, Nat.le_of_ble_eq_true rfl⟩) hS (hw_AWsub (by decide) g116 hS.1) (fun v H locs hp hz hk hS => ?_)
      obtain ⟨G122, rfl, hH, i123, k124⟩ := hp
      have v6 := va_at.kept v6 (hk _ (hw_lt v6) (hw_AWn k118 (by decide) (hw_lt v6)))
      have v17 := va_at.kept v17 (hk _ (hw_lt v17) (hw_AWn k120 (by decide) (hw_lt v17)))
      have m125 : ∀ a, G108 a ≠ 0 → G108 a < 100 → G122 a = G108 a := fun a h0 h1 => i123 a (hHo.lt h0) (fun e => by rw [e, k111] at h1; exact absurd h1 (by decide))
      have g126 : ∀ x, x < s.heap.size → G122 x = G x := fun x h9 => (i123 x (Nat.lt_of_lt_of_le h9 hS0.1) (fun e => by have := w115; omega)).trans (g116 x h9)
      have k127 := hw_kg m125 k117 (by decide) (by decide)
      have k128 := hw_kg m125 k118 (by decide) (by decide)
      have R129 := hw_RX_mono m125 R119
      have k130 := hw_kg m125 k120 (by decide) (by decide)
      have R131 := hw_RT_mono m125 R121
      obtain ⟨r132, kc_133, lc_134, wc_135, dk_136, v137, R138, g139, g140, g141⟩ := hH.oC k127
      refine hw_cM0 (va_runV (As := [.ref q107]) (rest := []) ⟨hx, hb, hml, hown, hts⟩ (k_X1_addKey l D G122 (r1 0) q107 _ k127 k124) (cwV 1 hts gX11_tell_X1_addKey rfl rfl rfl (by decide +kernel) ⟨Nat.le_of_ble_eq_true rfl, Nat.le_of_ble_eq_true rfl⟩) (hw_pV (hw_rc (q := (RX1, TX1, 7)) hK v137 rfl) hH hK hST hS (by decide) (hw_hG g126) trivial) rfl rfl hl.1 rfl (lv_room (Nat.le_of_ble_eq_true rfl)) dX11_tell_137 ⟨Nat.le_of_ble_eq_true rfl, Nat.le_of_ble_eq_true rfl⟩) hS (hw_AWsub (by decide) g126 hS.1) (fun v H locs hp hz hk hS => ?_)
      obtain ⟨rfl, hH⟩ := hp
      have v6 := va_at.kept v6 (hk _ (hw_lt v6) (hw_AWn k128 (by decide) (hw_lt v6)))
      have v17 := va_at.kept v17 (hk _ (hw_lt v17) (hw_AWn k130 (by decide) (hw_lt v17)))
      refine lv_goto (tgt := 223) hx hb dX11_tell_140 (by decide) ?_
      refine W.widen (k := 1) (n := 4) (by first | decide | omega) (by first | decide | omega) ?_
      exact hw_vretM hx hb hr hlocks hQ hS (⟨G122, rfl, hH, g126⟩) dX11_tell_223
    · refine lv_tableIn (tgt := 143) (off := 112) hx hb dX11_tell_31 (by omega) (by omega) (by rw [w26]; rfl) (by decide) ?_
      refine lv_aload_n hx hb dX11_tell_143 rfl (lv_at hl 3 rfl) ?_
      refine hw_get hx hb fg_10_10 hK v6 rfl dX11_tell_144 ?_
      have hS0 := hS
      refine hw_new hx hb 103 (ci := 2) (C := RX2) (T := TX2) (N := 2) hts (by decide +kernel) tyX2 tyX2_ok hown (hts (.classLink RX11 395 RX2) (by decide +kernel)) (hts (.instantiable RX2 2) (by decide +kernel)) (hts (.initialized RX2) (by decide +kernel)) hK hH hS rfl [.int 0, .int 0] (fun j hj => by rcases (show j = 0 ∨ j = 1 by omega) with rfl | rfl <;> rfl) (show hw_ok D.2.1 G 103 _ from ⟨2, _, by decide, rfl⟩) (Nat.le_of_ble_eq_true rfl) (Nat.le_of_ble_eq_true rfl) dX11_tell_147 (fun q142 G143 H hH m144 m145 k146 l147 e148 v149 oq hz hS => ?_)
      have w150 : s.heap.size ≤ q142 := by have := hS0.1; omega
      have g151 : ∀ x, x < s.heap.size → G143 x = G x := fun x h9 => (l147 x (Nat.lt_of_lt_of_le h9 hS0.1)).trans ((fun _ _ => rfl) x h9)
      have v6 := va_at.kept v6 (oq _ (hw_lt v6))
      have v17 := va_at.kept v17 (oq _ (hw_lt v17))
      have k152 := hw_kg m144 (hw_RX_0 R7) (by decide) (by decide)
      have k153 := hw_kg m144 G0 (by decide) (by decide)
      have R154 := hw_RX_mono m144 R7
      have k155 := hw_kg m144 (hw_RX_1 R7) (by decide) (by decide)
      have R156 := hw_RT_mono m144 R18
      refine lv_dup hx hb dX11_tell_150 rfl ?_
      refine lv_iload_n hx hb dX11_tell_151 rfl (lv_at hl 1 rfl) ?_
      refine lv_iload hx hb dX11_tell_152 (lv_at hl 0 rfl) ?_
      have hHo := hH
      have hS0 := hS
      refine hw_cM (va_runI (As := [.int x24, .int x25]) (rest := [.ref q142, .ref (r1 0)]) ⟨hx, hb, hml, hown, hts⟩ (k_X2_init l D G143 q142 x24 x25 _ k146 2 (by decide)) (cwI 2 hts gX11_tell_X2_init rfl rfl rfl (hts (.initialized RX2) (by decide +kernel)) (hts (.methodLink RX11 397 yX2_init) (by decide +kernel)) (hts (.instanceMethod yX2_init) (by decide +kernel)) rfl (by decide +kernel) ⟨Nat.le_of_ble_eq_true rfl, Nat.le_of_ble_eq_true rfl⟩) (hw_pS hH hK hST hS (by decide) (hw_hG g151) v149) rfl rfl hl.1 rfl (lv_room (Nat.le_of_ble_eq_true rfl)) dX11_tell_154 ⟨Nat.le_of_ble_eq_true rfl, Nat.le_of_ble_eq_true rfl⟩) hS (hw_AWsub (by decide) g151 hS.1) (fun v H locs hp hz hk hS => ?_)
      obtain ⟨G157, rfl, hH, i158, k159⟩ := hp
      have v6 := va_at.kept v6 (hk _ (hw_lt v6) (hw_AWn k153 (by decide) (hw_lt v6)))
      have v17 := va_at.kept v17 (hk _ (hw_lt v17) (hw_AWn k155 (by decide) (hw_lt v17)))
      have m160 : ∀ a, G143 a ≠ 0 → G143 a < 100 → G157 a = G143 a := fun a h0 h1 => i158 a (hHo.lt h0) (fun e => by rw [e, k146] at h1; exact absurd h1 (by decide))
      have g161 : ∀ x, x < s.heap.size → G157 x = G x := fun x h9 => (i158 x (Nat.lt_of_lt_of_le h9 hS0.1) (fun e => by have := w150; omega)).trans (g151 x h9)
      have k162 := hw_kg m160 k152 (by decide) (by decide)
      have k163 := hw_kg m160 k153 (by decide) (by decide)
      have R164 := hw_RX_mono m160 R154
      have k165 := hw_kg m160 k155 (by decide) (by decide)
      have R166 := hw_RT_mono m160 R156
      obtain ⟨r167, kc_168, lc_169, wc_170, dk_171, v172, R173, g174, g175, g176⟩ := hH.oC k162
      refine hw_cM0 (va_runV (As := [.ref q142]) (rest := []) ⟨hx, hb, hml, hown, hts⟩ (k_X1_addKey l D G157 (r1 0) q142 _ k162 k159) (cwV 1 hts gX11_tell_X1_addKey rfl rfl rfl (by decide +kernel) ⟨Nat.le_of_ble_eq_true rfl, Nat.le_of_ble_eq_true rfl⟩) (hw_pV (hw_rc (q := (RX1, TX1, 7)) hK v172 rfl) hH hK hST hS (by decide) (hw_hG g161) trivial) rfl rfl hl.1 rfl (lv_room (Nat.le_of_ble_eq_true rfl)) dX11_tell_157 ⟨Nat.le_of_ble_eq_true rfl, Nat.le_of_ble_eq_true rfl⟩) hS (hw_AWsub (by decide) g161 hS.1) (fun v H locs hp hz hk hS => ?_)
      obtain ⟨rfl, hH⟩ := hp
      have v6 := va_at.kept v6 (hk _ (hw_lt v6) (hw_AWn k163 (by decide) (hw_lt v6)))
      have v17 := va_at.kept v17 (hk _ (hw_lt v17) (hw_AWn k165 (by decide) (hw_lt v17)))
      refine lv_goto (tgt := 223) hx hb dX11_tell_160 (by decide) ?_
      refine W.widen (k := 1) (n := 4) (by first | decide | omega) (by first | decide | omega) ?_
      exact hw_vretM hx hb hr hlocks hQ hS (⟨G157, rfl, hH, g161⟩) dX11_tell_223
    · refine lv_tableIn (tgt := 163) (off := 132) hx hb dX11_tell_31 (by omega) (by omega) (by rw [w26]; rfl) (by decide) ?_
      refine lv_aload_n hx hb dX11_tell_163 rfl (lv_at hl 3 rfl) ?_
      refine hw_get hx hb fg_10_10 hK v6 rfl dX11_tell_164 ?_
      have hS0 := hS
      refine hw_new hx hb 104 (ci := 3) (C := RX4) (T := TX4) (N := 4) hts (by decide +kernel) tyX4 tyX4_ok hown (hts (.classLink RX11 132 RX4) (by decide +kernel)) (hts (.instantiable RX4 4) (by decide +kernel)) (hts (.initialized RX4) (by decide +kernel)) hK hH hS rfl [.int 0, .int 0, .int 0, .int 0] (fun j hj => by rcases (show j = 0 ∨ j = 1 ∨ j = 2 ∨ j = 3 by omega) with rfl | rfl | rfl | rfl <;> rfl) (show hw_ok D.2.1 G 104 _ from ⟨_, rfl⟩) (Nat.le_of_ble_eq_true rfl) (Nat.le_of_ble_eq_true rfl) dX11_tell_167 (fun q177 G178 H hH m179 m180 k181 l182 e183 v184 oq hz hS => ?_)
      have w185 : s.heap.size ≤ q177 := by have := hS0.1; omega
      have g186 : ∀ x, x < s.heap.size → G178 x = G x := fun x h9 => (l182 x (Nat.lt_of_lt_of_le h9 hS0.1)).trans ((fun _ _ => rfl) x h9)
      have v6 := va_at.kept v6 (oq _ (hw_lt v6))
      have v17 := va_at.kept v17 (oq _ (hw_lt v17))
      have k187 := hw_kg m179 (hw_RX_0 R7) (by decide) (by decide)
      have k188 := hw_kg m179 G0 (by decide) (by decide)
      have R189 := hw_RX_mono m179 R7
      have k190 := hw_kg m179 (hw_RX_1 R7) (by decide) (by decide)
      have R191 := hw_RT_mono m179 R18
      refine lv_dup hx hb dX11_tell_170 rfl ?_
      refine lv_iload_n hx hb dX11_tell_171 rfl (lv_at hl 1 rfl) ?_
      refine lv_iload hx hb dX11_tell_172 (lv_at hl 0 rfl) ?_
      refine lv_aload_n hx hb dX11_tell_174 rfl (lv_at hl 3 rfl) ?_
      refine hw_get hx hb fg_19_10 hK v6 rfl dX11_tell_175 ?_
      refine lv_iload_n hx hb dX11_tell_178 rfl (lv_at hl 4 rfl) ?_
      refine lv_iconst (v := 2) hx hb dX11_tell_179 (by decide) ?_
      refine hw_cR (va_runV (As := [.int p1, .int 2]) (rest := [.int x25, .int x24, .ref q177, .ref q177, .ref (r1 0)]) ⟨hx, hb, hml, hown, hts⟩ (k_X10_numberOf l D G178 (r1 1) p1 2 _ (hw_RX_1 R189)) (cwV 2 hts gX11_tell_X10_numberOf rfl rfl rfl (by decide +kernel) ⟨Nat.le_of_ble_eq_true rfl, Nat.le_of_ble_eq_true rfl⟩) (hw_pV (hw_rc (q := (RX10, TX10, 10)) hK v17 rfl) hH hK hST hS (by decide) (hw_hG g186) trivial) rfl rfl hl.1 rfl (lv_room (Nat.le_of_ble_eq_true rfl)) dX11_tell_180 ⟨Nat.le_of_ble_eq_true rfl, Nat.le_of_ble_eq_true rfl⟩) (fun v hp => ?_)
      obtain ⟨x192, rfl⟩ := hp
      refine lv_aload_n hx hb dX11_tell_183 rfl (lv_at hl 3 rfl) ?_
      refine hw_get hx hb fg_19_10 hK v6 rfl dX11_tell_184 ?_
      refine lv_iload_n hx hb dX11_tell_187 rfl (lv_at hl 4 rfl) ?_
      refine lv_iconst (v := 3) hx hb dX11_tell_188 (by decide) ?_
      refine hw_cR (va_runV (As := [.int p1, .int 3]) (rest := [.int x192, .int x25, .int x24, .ref q177, .ref q177, .ref (r1 0)]) ⟨hx, hb, hml, hown, hts⟩ (k_X10_numberOf l D G178 (r1 1) p1 3 _ (hw_RX_1 R189)) (cwV 2 hts gX11_tell_X10_numberOf rfl rfl rfl (by decide +kernel) ⟨Nat.le_of_ble_eq_true rfl, Nat.le_of_ble_eq_true rfl⟩) (hw_pV (hw_rc (q := (RX10, TX10, 10)) hK v17 rfl) hH hK hST hS (by decide) (hw_hG g186) trivial) rfl rfl hl.1 rfl (lv_room (Nat.le_of_ble_eq_true rfl)) dX11_tell_189 ⟨Nat.le_of_ble_eq_true rfl, Nat.le_of_ble_eq_true rfl⟩) (fun v hp => ?_)
      obtain ⟨x193, rfl⟩ := hp
      have hHo := hH
      have hS0 := hS
      refine hw_cM (va_runI (As := [.int x24, .int x25, .int x192, .int x193]) (rest := [.ref q177, .ref (r1 0)]) ⟨hx, hb, hml, hown, hts⟩ (k_X4_init l D G178 q177 x24 x25 x192 x193 _ k181) (cwI 4 hts gX11_tell_X4_init rfl rfl rfl (hts (.initialized RX4) (by decide +kernel)) (hts (.methodLink RX11 398 yX4_init) (by decide +kernel)) (hts (.instanceMethod yX4_init) (by decide +kernel)) rfl (by decide +kernel) ⟨Nat.le_of_ble_eq_true rfl, Nat.le_of_ble_eq_true rfl⟩) (hw_pS hH hK hST hS (by decide) (hw_hG g186) v184) rfl rfl hl.1 rfl (lv_room (Nat.le_of_ble_eq_true rfl)) dX11_tell_192 ⟨Nat.le_of_ble_eq_true rfl, Nat.le_of_ble_eq_true rfl⟩) hS (hw_AWsub (by decide) g186 hS.1) (fun v H locs hp hz hk hS => ?_)
      obtain ⟨G194, rfl, hH, i195, k196⟩ := hp
      have v6 := va_at.kept v6 (hk _ (hw_lt v6) (hw_AWn k188 (by decide) (hw_lt v6)))
      have v17 := va_at.kept v17 (hk _ (hw_lt v17) (hw_AWn k190 (by decide) (hw_lt v17)))
      have m197 : ∀ a, G178 a ≠ 0 → G178 a < 100 → G194 a = G178 a := fun a h0 h1 => i195 a (hHo.lt h0) (fun e => by rw [e, k181] at h1; exact absurd h1 (by decide))
      have g198 : ∀ x, x < s.heap.size → G194 x = G x := fun x h9 => (i195 x (Nat.lt_of_lt_of_le h9 hS0.1) (fun e => by have := w185; omega)).trans (g186 x h9)
      have k199 := hw_kg m197 k187 (by decide) (by decide)
      have k200 := hw_kg m197 k188 (by decide) (by decide)
      have R201 := hw_RX_mono m197 R189
      have k202 := hw_kg m197 k190 (by decide) (by decide)
      have R203 := hw_RT_mono m197 R191
      obtain ⟨r204, kc_205, lc_206, wc_207, dk_208, v209, R210, g211, g212, g213⟩ := hH.oC k199
      refine hw_cM0 (va_runV (As := [.ref q177]) (rest := []) ⟨hx, hb, hml, hown, hts⟩ (k_X1_addLock l D G194 (r1 0) q177 _ k199 k196) (cwV 1 hts gX11_tell_X1_addLock rfl rfl rfl (by decide +kernel) ⟨Nat.le_of_ble_eq_true rfl, Nat.le_of_ble_eq_true rfl⟩) (hw_pV (hw_rc (q := (RX1, TX1, 7)) hK v209 rfl) hH hK hST hS (by decide) (hw_hG g198) trivial) rfl rfl hl.1 rfl (lv_room (Nat.le_of_ble_eq_true rfl)) dX11_tell_195 ⟨Nat.le_of_ble_eq_true rfl, Nat.le_of_ble_eq_true rfl⟩) hS (hw_AWsub (by decide) g198 hS.1) (fun v H locs hp hz hk hS => ?_)
      obtain ⟨rfl, hH⟩ := hp
      have v6 := va_at.kept v6 (hk _ (hw_lt v6) (hw_AWn k200 (by decide) (hw_lt v6)))
      have v17 := va_at.kept v17 (hk _ (hw_lt v17) (hw_AWn k202 (by decide) (hw_lt v17)))
      refine lv_goto (tgt := 223) hx hb dX11_tell_198 (by decide) ?_
      refine W.widen (k := 1) (n := 4) (by first | decide | omega) (by first | decide | omega) ?_
      exact hw_vretM hx hb hr hlocks hQ hS (⟨G194, rfl, hH, g198⟩) dX11_tell_223
    · refine lv_tableIn (tgt := 201) (off := 170) hx hb dX11_tell_31 (by omega) (by omega) (by rw [w26]; rfl) (by decide) ?_
      refine lv_aload_n hx hb dX11_tell_201 rfl (lv_at hl 3 rfl) ?_
      refine hw_get hx hb fg_10_10 hK v6 rfl dX11_tell_202 ?_
      refine lv_iload_n hx hb dX11_tell_205 rfl (lv_at hl 1 rfl) ?_
      obtain ⟨r214, kc_215, lc_216, wc_217, dk_218, v219, R220, g221, g222, g223⟩ := hH.oC (hw_RX_0 R7)
      refine hw_cM0 (va_runV (As := [.int x24]) (rest := []) ⟨hx, hb, hml, hown, hts⟩ (k_X1_addWalker l D G (r1 0) x24 _ (hw_RX_0 R7)) (cwV 1 hts gX11_tell_X1_addWalker rfl rfl rfl (by decide +kernel) ⟨Nat.le_of_ble_eq_true rfl, Nat.le_of_ble_eq_true rfl⟩) (hw_pV (hw_rc (q := (RX1, TX1, 7)) hK v219 rfl) hH hK hST hS (by decide) (fun _ h => Or.inl h) trivial) rfl rfl hl.1 rfl (lv_room (Nat.le_of_ble_eq_true rfl)) dX11_tell_206 ⟨Nat.le_of_ble_eq_true rfl, Nat.le_of_ble_eq_true rfl⟩) hS (hw_AWsub (by decide) (fun _ _ => rfl) hS.1) (fun v H locs hp hz hk hS => ?_)
      obtain ⟨rfl, hH⟩ := hp
      have v6 := va_at.kept v6 (hk _ (hw_lt v6) (hw_AWn G0 (by decide) (hw_lt v6)))
      have v17 := va_at.kept v17 (hk _ (hw_lt v17) (hw_AWn (hw_RX_1 R7) (by decide) (hw_lt v17)))
      refine lv_goto (tgt := 223) hx hb dX11_tell_209 (by decide) ?_
      refine W.widen (k := 1) (n := 4) (by first | decide | omega) (by first | decide | omega) ?_
      exact hw_vretM hx hb hr hlocks hQ hS (⟨G, rfl, hH, (fun _ _ => rfl)⟩) dX11_tell_223
    · refine lv_tableIn (tgt := 212) (off := 181) hx hb dX11_tell_31 (by omega) (by omega) (by rw [w26]; rfl) (by decide) ?_
      refine lv_aload_n hx hb dX11_tell_212 rfl (lv_at hl 3 rfl) ?_
      refine hw_get hx hb fg_10_10 hK v6 rfl dX11_tell_213 ?_
      refine lv_iload_n hx hb dX11_tell_216 rfl (lv_at hl 1 rfl) ?_
      obtain ⟨r224, kc_225, lc_226, wc_227, dk_228, v229, R230, g231, g232, g233⟩ := hH.oC (hw_RX_0 R7)
      refine hw_put (v := .int x24) (fs' := hw_LC r224 kc_225 lc_226 wc_227 x24) hx hb fp_177_1 hK hH v229 (Nat.le_of_ble_eq_true rfl) rfl rfl rfl (fun _ => by rw [(hw_RX_0 R7)]; exact ⟨r224, kc_225, lc_226, wc_227, x24, rfl, R230, ⟨by first | decide | omega, by first | decide | omega⟩, ⟨by first | decide | omega, by first | decide | omega⟩, ⟨by first | decide | omega, by first | decide | omega⟩⟩) hS (hw_AWi (hw_RX_0 R7) (by decide)) dX11_tell_217 (fun H locs hH v229 oq hz hS => ?_)
      have v6 := va_at.kept v6 (oq _ (hw_ne G0 (hw_RX_0 R7) (by decide)))
      have v17 := va_at.kept v17 (oq _ (hw_ne (hw_RX_1 R7) (hw_RX_0 R7) (by decide)))
      refine lv_goto (tgt := 223) hx hb dX11_tell_220 (by decide) ?_
      refine W.widen (k := 1) (n := 4) (by first | decide | omega) (by first | decide | omega) ?_
      exact hw_vretM hx hb hr hlocks hQ hS (⟨G, rfl, hH, (fun _ _ => rfl)⟩) dX11_tell_223

set_option maxHeartbeats 4000000 in
set_option maxRecDepth 100000 in
theorem k_X11_land (l : Launch) (D : hw_D) (G : Nat → Nat) (h0 : Nat) (sz : Nat) (rx : Nat → Nat) (pn_x pc_x ks_x sc_x : Int32) (rt : Nat → Nat) (ln_t cl_t st_t en_t kf_t lf_t wf_t : Int32) (G0 : G h0 = 1) (Rx : hw_RX G rx) (gsc_x : 0 ≤ sc_x.toInt ∧ sc_x.toInt ≤ 6) (Rt : hw_RT G rt) (gln_t : 0 ≤ ln_t.toInt ∧ ln_t.toInt ≤ 200) (gcl_t : 0 ≤ cl_t.toInt ∧ cl_t.toInt ≤ 20) (gst_t : 0 ≤ st_t.toInt ∧ st_t.toInt ≤ 200) (gen_t : 0 ≤ en_t.toInt ∧ en_t.toInt ≤ 200) : Met l yX11_land wsX11_land ({ frames := 8, cells := 20, slots := 80, locals := 174 } : Room) (hw_PC D G [.ref h0] sz (fun H => va_at D.1 vwCl (h0, .inr (10, hw_LX rx pn_x pc_x ks_x sc_x)) H ∧ va_at D.1 vwCl ((rx 1), .inr (9, hw_LT rt ln_t cl_t st_t en_t kf_t lf_t wf_t)) H)) (hw_QM (fun v H => (∃ (pc_x2 : Int32) (ks_x2 : Int32) (sc_x2 : Int32) (ln_t2 : Int32) (cl_t2 : Int32) (st_t2 : Int32) (en_t2 : Int32) (kf_t2 : Int32) (lf_t2 : Int32) (wf_t2 : Int32) (G2 : Nat → Nat), v = some (.int (-4)) ∧ hw_HT D G2 H ∧ (∀ q, q < sz → G2 q = G q) ∧ va_at D.1 vwCl (h0, .inr (10, hw_LX rx pn_x pc_x2 ks_x2 sc_x2)) H ∧ va_at D.1 vwCl ((rx 1), .inr (9, hw_LT rt ln_t2 cl_t2 st_t2 en_t2 kf_t2 lf_t2 wf_t2)) H ∧ (0 ≤ sc_x2.toInt ∧ sc_x2.toInt ≤ 6) ∧ (0 ≤ ln_t2.toInt ∧ ln_t2.toInt ≤ 200) ∧ (0 ≤ cl_t2.toInt ∧ cl_t2.toInt ≤ 20) ∧ (0 ≤ st_t2.toInt ∧ st_t2.toInt ≤ 200) ∧ (0 ≤ en_t2.toInt ∧ en_t2.toInt ≤ 200)) ∨ (∃ (r : Int32) (pc_x2 : Int32) (ks_x2 : Int32) (sc_x2 : Int32) (ln_t2 : Int32) (cl_t2 : Int32) (st_t2 : Int32) (en_t2 : Int32) (kf_t2 : Int32) (lf_t2 : Int32) (wf_t2 : Int32) (G2 : Nat → Nat), v = some (.int r) ∧ hw_HT D G2 H ∧ (∀ q, q < sz → G2 q = G q) ∧ va_at D.1 vwCl (h0, .inr (10, hw_LX rx pn_x pc_x2 ks_x2 sc_x2)) H ∧ va_at D.1 vwCl ((rx 1), .inr (9, hw_LT rt ln_t2 cl_t2 st_t2 en_t2 kf_t2 lf_t2 wf_t2)) H ∧ (0 ≤ sc_x2.toInt ∧ sc_x2.toInt ≤ 6) ∧ (0 ≤ ln_t2.toInt ∧ ln_t2.toInt ≤ 200) ∧ (0 ≤ cl_t2.toInt ∧ cl_t2.toInt ≤ 20) ∧ (0 ≤ st_t2.toInt ∧ st_t2.toInt ≤ 200) ∧ (0 ≤ en_t2.toInt ∧ en_t2.toInt ≤ 200) ∧ 0 < ln_t.toInt)) (hw_AW G [1, 2, 7, 8, 10, 11, 12, 20, 21, 22, 23, 25, 26, 103, 104] sz)) 20 80 (hw_AW G [1, 2, 7, 8, 10, 11, 12, 20, 21, 22, 23, 25, 26, 103, 104] sz) := by
  refine hw_met (cc := cX11_land) (maxL := 2) (ret := (some .int)) (plainFor_of_name (by decide)) rfl (Nat.le_of_ble_eq_true rfl) ?_
  intro p e s m args below meth c QQ ls hsz hx hb hml hr hts hown hlocks hnm hH hK hST hF hQ hl
  subst hsz
  have hS : va_S (hw_AW G [1, 2, 7, 8, 10, 11, 12, 20, 21, 22, 23, 25, 26, 103, 104] s.heap.size) s.heap s.heap [] := va_S.rf
  obtain ⟨vx, vt⟩ := hF
  have hl : lv_has ls 2 [(0, .ref h0)] := hl
  have u_10 : ∀ w ∈ u_ws RX11 TX11 14, w.before args s = true := fun w hw => hts w ((by decide +kernel : ∀ w ∈ u_ws RX11 TX11 14, w ∈ wsX11_land) w hw)
  have fg_19_10 : hw_FG s args m 19 10 1 := ⟨RX11, "WardWalkers", RX11, TX11, 14, u_10, hown, rfl, by decide, (hts (.fieldLink RX11 19 "WardWalkers" "text" "LWardWalkers$Text;") (by decide +kernel)), (fun _ h9 => h9)⟩
  have fg_10_10 : hw_FG s args m 10 10 0 := ⟨RX11, "WardWalkers", RX11, TX11, 14, u_10, hown, rfl, by decide, (hts (.fieldLink RX11 10 "WardWalkers" "country" "LWardWalkers$Country;") (by decide +kernel)), (fun _ h9 => h9)⟩
  have u_9 : ∀ w ∈ u_ws RX10 TX10 10, w.before args s = true := fun w hw => hts w ((by decide +kernel : ∀ w ∈ u_ws RX10 TX10 10, w ∈ wsX11_land) w hw)
  have fg_78_9 : hw_FG s args m 78 9 2 := ⟨RX11, "WardWalkers$Text", RX10, TX10, 10, u_9, hown, rfl, by decide, (hts (.fieldLink RX11 78 "WardWalkers$Text" "clauses" "I") (by decide +kernel)), (fun _ h9 => h9)⟩
  have fp_70_9 : hw_FP s args m 70 9 1 false .int := ⟨RX11, "WardWalkers$Text", RX10, TX10, 10, tyX10, u_9, hown, rfl, by decide, (hts (.fieldLink RX11 70 "WardWalkers$Text" "length" "I") (by decide +kernel)), (fun _ h9 => h9), tyX10_ok, nmX10, rfl, (fun h => by cases h), by decide +kernel⟩
  have fg_26_10 : hw_FG s args m 26 10 2 := ⟨RX11, "WardWalkers", RX11, TX11, 14, u_10, hown, rfl, by decide, (hts (.fieldLink RX11 26 "WardWalkers" "now" "LWardWalkers$Standing;") (by decide +kernel)), (fun _ h9 => h9)⟩
  have fp_88_10 : hw_FP s args m 88 10 11 false .int := ⟨RX11, "WardWalkers", RX11, TX11, 14, tyX11, u_10, hown, rfl, by decide, (hts (.fieldLink RX11 88 "WardWalkers" "seenCount" "I") (by decide +kernel)), (fun _ h9 => h9), tyX11_ok, nmX11, rfl, (fun h => by cases h), by decide +kernel⟩
  have fp_91_10 : hw_FP s args m 91 10 8 false .int := ⟨RX11, "WardWalkers", RX11, TX11, 14, tyX11, u_10, hown, rfl, by decide, (hts (.fieldLink RX11 91 "WardWalkers" "keptSet" "I") (by decide +kernel)), (fun _ h9 => h9), tyX11_ok, nmX11, rfl, (fun h => by cases h), by decide +kernel⟩
  have fp_94_10 : hw_FP s args m 94 10 5 false .int := ⟨RX11, "WardWalkers", RX11, TX11, 14, tyX11, u_10, hown, rfl, by decide, (hts (.fieldLink RX11 94 "WardWalkers" "pastCount" "I") (by decide +kernel)), (fun _ h9 => h9), tyX11_ok, nmX11, rfl, (fun h => by cases h), by decide +kernel⟩
  have hHs := hH
  refine lv_aload_n hx hb dX11_land_0 rfl (lv_at hl 0 rfl) ?_
  refine hw_get hx hb fg_19_10 hK vx rfl dX11_land_1 ?_
  refine lv_aload_n hx hb dX11_land_4 rfl (lv_at hl 0 rfl) ?_
  refine hw_get hx hb fg_10_10 hK vx rfl dX11_land_5 ?_
  refine hw_cM0 (va_runV (As := [.ref (rx 0)]) (rest := []) ⟨hx, hb, hml, hown, hts⟩ (k_X10_readFor l D G (rx 1) (rx 0) _ rt ln_t cl_t st_t en_t kf_t lf_t wf_t (hw_RX_1 Rx) (hw_RX_0 Rx) Rt ⟨by first | decide | omega, by first | decide | omega⟩ ⟨by first | decide | omega, by first | decide | omega⟩ ⟨by first | decide | omega, by first | decide | omega⟩ ⟨by first | decide | omega, by first | decide | omega⟩) (cwV 1 hts gX11_land_X10_readFor rfl rfl rfl (by decide +kernel) ⟨Nat.le_of_ble_eq_true rfl, Nat.le_of_ble_eq_true rfl⟩) (hw_pV (hw_rc (q := (RX10, TX10, 10)) hK vt rfl) hH hK hST hS (by decide) (fun _ h => Or.inl h) vt) rfl rfl hl.1 rfl (lv_room (Nat.le_of_ble_eq_true rfl)) dX11_land_8 ⟨Nat.le_of_ble_eq_true rfl, Nat.le_of_ble_eq_true rfl⟩) hS (hw_AWsub (by decide) (fun _ _ => rfl) hS.1) (fun v H locs hp hz hk hS => ?_)
  rcases hp with ⟨x1, x2, x3, x4, x5, x6, rfl, hH, v7, g8, g9, g10, q11⟩ | ⟨x12, x13, x14, x15, x16, x17, x18, rfl, hH, v19, g20, g21, g22, g23, q24⟩
  · have vx := va_at.kept vx (hk _ (hw_lt vx) (hw_AWn G0 (by decide) (hw_lt vx)))
    refine lv_iconst (v := (-1)) hx hb dX11_land_11 (by decide) ?_
    refine lv_icmp_eq (tgt := 18) hx hb dX11_land_12 (by decide) (fun c25 => ?_) (fun c25 => ?_)
    · refine lv_iconst (v := 0) hx hb dX11_land_18 (by decide) ?_
      refine lv_istore_n (lv' := [(1, .int 0), (0, .ref h0)]) hx hb dX11_land_19 rfl hl (by decide) rfl (fun ls hl => ?_)
      have L20 : ∀ (n28 : Nat) (y1_26 : Int32) (Gc20 : Nat → Nat) (hm : (20 - y1_26.toInt).toNat < n28) (g27 : 0 ≤ y1_26.toInt ∧ y1_26.toInt ≤ 20) (hGe20 : ∀ q, q < s.heap.size → Gc20 q = G q) (H : Heap) (locs : List Loc) (hH : hw_HT D Gc20 H) (vx : va_at D.1 vwCl (h0, .inr (10, hw_LX rx pn_x pc_x ks_x sc_x)) H) (v7 : va_at D.1 vwCl ((rx 1), .inr (9, hw_LT rt ln_t x1 x2 x3 x4 x5 x6)) H) (hS : va_S (hw_AW G [1, 2, 7, 8, 10, 11, 12, 20, 21, 22, 23, 25, 26, 103, 104] s.heap.size) s.heap H locs) (ls : Array Slot) (hl : lv_has ls 2 [(1, .int y1_26), (0, .ref h0)]), W p l e ({ frames := 8, cells := 20, slots := 80, locals := 174 } : Room) s m args below meth c H locs (1 * y1_26.toNatClampNeg) (4 * y1_26.toNatClampNeg) QQ (F0 m 20 ls []) := by
        intro n28
        induction n28 with
        | zero => intro y1_26 Gc20 hm; exact absurd hm (Nat.not_lt_zero _)
        | succ n28 ih20 =>
          intro y1_26 Gc20 hm g27 hGe20 H locs hH vx v7 hS ls hl
          have hcy : y1_26.toNatClampNeg = y1_26.toInt.toNat := rfl
          have hm120 : ∀ a, G a ≠ 0 → G a < 100 → Gc20 a = G a := fun a h _ => hGe20 a (hHs.lt h)
          have hm220 : ∀ a, G a ≠ 0 → Gc20 a = G a := fun a h => hGe20 a (hHs.lt h)
          have k29 := hw_kg hm120 G0 (by decide) (by decide)
          have R30 := hw_RX_mono hm120 Rx
          have k31 := hw_kg hm120 (hw_RX_1 Rx) (by decide) (by decide)
          have R32 := hw_RT_mono hm120 Rt
          refine lv_iload_n hx hb dX11_land_20 rfl (lv_at hl 0 rfl) ?_
          refine lv_aload_n hx hb dX11_land_21 rfl (lv_at hl 1 rfl) ?_
          refine hw_get hx hb fg_19_10 hK vx rfl dX11_land_22 ?_
          refine hw_get hx hb fg_78_9 hK v7 rfl dX11_land_25 ?_
          refine lv_icmp_ge (tgt := 42) hx hb dX11_land_28 (by decide) (fun c33 => ?_) (fun c33 => ?_)
          · have b34 : x1.toInt ≤ y1_26.toInt := hw_ile c33
            refine lv_aload_n hx hb dX11_land_42 rfl (lv_at hl 1 rfl) ?_
            refine hw_get hx hb fg_19_10 hK vx rfl dX11_land_43 ?_
            refine lv_iconst (v := 0) hx hb dX11_land_46 (by decide) ?_
            refine hw_put (v := .int 0) (fs' := hw_LT rt 0 x1 x2 x3 x4 x5 x6) hx hb fp_70_9 hK hH v7 (Nat.le_of_ble_eq_true rfl) rfl rfl rfl (fun _ => by rw [(hw_RX_1 R30)]; exact ⟨rt, 0, x1, x2, x3, x4, x5, x6, rfl, R32, ⟨by first | decide | omega, by first | decide | omega⟩, ⟨by first | decide | omega, by first | decide | omega⟩, ⟨by first | decide | omega, by first | decide | omega⟩, ⟨by first | decide | omega, by first | decide | omega⟩⟩) hS (hw_AWi2 hGe20 (hw_RX_1 R30) (by decide)) dX11_land_47 (fun H locs hH v7 oq hz hS => ?_)
            have vx := va_at.kept vx (oq _ (hw_ne k29 (hw_RX_1 R30) (by decide)))
            refine lv_aload_n hx hb dX11_land_50 rfl (lv_at hl 1 rfl) ?_
            refine hw_get hx hb fg_26_10 hK vx rfl dX11_land_51 ?_
            refine lv_aload_n hx hb dX11_land_54 rfl (lv_at hl 1 rfl) ?_
            refine hw_get hx hb fg_10_10 hK vx rfl dX11_land_55 ?_
            obtain ⟨r35, td_36, fd_37, os_38, v39, R40⟩ := hH.oS (hw_RX_2 R30)
            refine hw_cM0 (va_runV (As := [.ref (rx 0)]) (rest := []) ⟨hx, hb, hml, hown, hts⟩ (k_X9_begin l D Gc20 (rx 2) (rx 0) _ (hw_RX_2 R30) (hw_RX_0 R30)) (cwV 1 hts gX11_land_X9_begin rfl rfl rfl (by decide +kernel) ⟨Nat.le_of_ble_eq_true rfl, Nat.le_of_ble_eq_true rfl⟩) (hw_pV (hw_rc (q := (RX9, TX9, 7)) hK v39 rfl) hH hK hST hS (by decide) (hw_hG hGe20) trivial) rfl rfl hl.1 rfl (lv_room (Nat.le_of_ble_eq_true rfl)) dX11_land_58 ⟨by show _ ≤ 20; omega, by show _ ≤ 80; omega⟩) hS (hw_AWsub (by decide) hGe20 hS.1) (fun v H locs hp hz hk hS => ?_)
            obtain ⟨rfl, hH⟩ := hp
            have vx := va_at.kept vx (hk _ (hw_lt vx) (hw_AWn k29 (by decide) (hw_lt vx)))
            have v7 := va_at.kept v7 (hk _ (hw_lt v7) (hw_AWn k31 (by decide) (hw_lt v7)))
            refine lv_aload_n hx hb dX11_land_61 rfl (lv_at hl 1 rfl) ?_
            refine lv_iconst (v := 0) hx hb dX11_land_62 (by decide) ?_
            refine hw_put (v := .int 0) (fs' := hw_LX rx pn_x pc_x ks_x 0) hx hb fp_88_10 hK hH vx (Nat.le_of_ble_eq_true rfl) rfl rfl rfl (fun _ => by rw [k29]; exact ⟨rx, pn_x, pc_x, ks_x, 0, rfl, R30, ⟨by first | decide | omega, by first | decide | omega⟩⟩) hS (hw_AWi2 hGe20 k29 (by decide)) dX11_land_63 (fun H locs hH vx oq hz hS => ?_)
            have v7 := va_at.kept v7 (oq _ (hw_ne k31 k29 (by decide)))
            refine lv_aload_n hx hb dX11_land_66 rfl (lv_at hl 1 rfl) ?_
            refine lv_iconst (v := 0) hx hb dX11_land_67 (by decide) ?_
            refine hw_put (v := .int 0) (fs' := hw_LX rx pn_x pc_x 0 0) hx hb fp_91_10 hK hH vx (Nat.le_of_ble_eq_true rfl) rfl rfl rfl (fun _ => by rw [k29]; exact ⟨rx, pn_x, pc_x, 0, 0, rfl, R30, ⟨by first | decide | omega, by first | decide | omega⟩⟩) hS (hw_AWi2 hGe20 k29 (by decide)) dX11_land_68 (fun H locs hH vx oq hz hS => ?_)
            have v7 := va_at.kept v7 (oq _ (hw_ne k31 k29 (by decide)))
            refine lv_aload_n hx hb dX11_land_71 rfl (lv_at hl 1 rfl) ?_
            refine lv_iconst (v := 0) hx hb dX11_land_72 (by decide) ?_
            refine hw_put (v := .int 0) (fs' := hw_LX rx pn_x 0 0 0) hx hb fp_94_10 hK hH vx (Nat.le_of_ble_eq_true rfl) rfl rfl rfl (fun _ => by rw [k29]; exact ⟨rx, pn_x, 0, 0, 0, rfl, R30, ⟨by first | decide | omega, by first | decide | omega⟩⟩) hS (hw_AWi2 hGe20 k29 (by decide)) dX11_land_73 (fun H locs hH vx oq hz hS => ?_)
            have v7 := va_at.kept v7 (oq _ (hw_ne k31 k29 (by decide)))
            refine lv_aload_n hx hb dX11_land_76 rfl (lv_at hl 1 rfl) ?_
            refine hw_get hx hb fg_19_10 hK vx rfl dX11_land_77 ?_
            refine hw_get hx hb fg_78_9 hK v7 rfl dX11_land_80 ?_
            refine W.widen (k := 20) (n := 80) (by first | decide | omega) (by first | decide | omega) ?_
            exact hw_iretM (v := x1) hx hb hr hlocks hQ hS rfl (Or.inr (⟨x1, 0, 0, 0, 0, x1, x2, x3, x4, x5, x6, Gc20, rfl, hH, hGe20, vx, v7, ⟨by first | decide | omega, by first | decide | omega⟩, ⟨by first | decide | omega, by first | decide | omega⟩, ⟨by first | decide | omega, by first | decide | omega⟩, ⟨by first | decide | omega, by first | decide | omega⟩, ⟨by first | decide | omega, by first | decide | omega⟩, (by first | rfl | trivial | assumption | omega | (intros; first | rfl | assumption | omega | (exfalso; omega)))⟩)) dX11_land_83
          · have b41 : y1_26.toInt < x1.toInt := hw_inle c33
            refine lv_aload_n hx hb dX11_land_31 rfl (lv_at hl 1 rfl) ?_
            refine lv_iload_n hx hb dX11_land_32 rfl (lv_at hl 0 rfl) ?_
            have hHo := hH
            have hS0 := hS
            refine hw_cM (va_runV (As := [.int y1_26]) (rest := []) ⟨hx, hb, hml, hown, hts⟩ (k_X11_tell l D Gc20 h0 y1_26 _ k29) (cwV 1 hts gX11_land_X11_tell rfl rfl rfl (by decide +kernel) ⟨Nat.le_of_ble_eq_true rfl, Nat.le_of_ble_eq_true rfl⟩) (hw_pV (hw_rc (q := (RX11, TX11, 14)) hK vx rfl) hH hK hST hS (by decide) (hw_hG hGe20) trivial) rfl rfl hl.1 rfl (lv_room (Nat.le_of_ble_eq_true rfl)) dX11_land_33 ⟨by show _ ≤ 20; omega, by show _ ≤ 80; omega⟩) hS (hw_AWsub (by decide) hGe20 hS.1) (fun v H locs hp hz hk hS => ?_)
            obtain ⟨G45, rfl, hH, i46⟩ := hp
            have vx := va_at.kept vx (hk _ (hw_lt vx) (hw_AWn k29 (by decide) (hw_lt vx)))
            have v7 := va_at.kept v7 (hk _ (hw_lt v7) (hw_AWn k31 (by decide) (hw_lt v7)))
            have m47 : ∀ a, Gc20 a ≠ 0 → Gc20 a < 100 → G45 a = Gc20 a := fun a h0 _ => i46 a (hHo.lt h0)
            have g48 : ∀ x, x < s.heap.size → G45 x = G x := fun x h9 => (i46 x (Nat.lt_of_lt_of_le h9 hS0.1)).trans (hGe20 x h9)
            have k49 := hw_kg m47 k29 (by decide) (by decide)
            have R50 := hw_RX_mono m47 R30
            have k51 := hw_kg m47 k31 (by decide) (by decide)
            have R52 := hw_RT_mono m47 R32
            obtain ⟨x53, e54⟩ : ∃ y : Int32, y = y1_26 + 1 := ⟨_, rfl⟩
            refine lv_iinc (v := x53) (lv' := [(1, .int x53), (0, .ref h0)]) hx hb dX11_land_36 hl (k := 0) rfl (by rw [e54]; rfl) (by decide) rfl (fun ls hl => ?_)
            have t55 : x53.toInt = y1_26.toInt + 1 := by rw [e54]; exact hw_add rfl rfl (by omega) (by omega)
            refine lv_goto (tgt := 20) hx hb dX11_land_39 (by decide) ?_
            refine W.widen (k := 1 * x53.toNatClampNeg) (n := 4 * x53.toNatClampNeg) (by have := hw_cls (x := y1_26) (y := x53) (by omega) (by omega); omega) (by have := hw_cls (x := y1_26) (y := x53) (by omega) (by omega); omega) ?_
            exact ih20 x53 G45 (by first | omega | omega) ⟨by first | decide | omega, by first | decide | omega⟩ g48 _ _ hH vx v7 hS _ (lv_sub hl [0, 1] rfl)
      refine W.widen (k := (1 * (0 : Int32).toNatClampNeg)) (n := (4 * (0 : Int32).toNatClampNeg)) (Nat.zero_le _) (Nat.zero_le _) ?_
      exact L20 _ 0 G (Nat.lt_succ_self _) ⟨by first | decide | omega, by first | decide | omega⟩ (fun _ _ => rfl) _ _ hH vx v7 hS _ (lv_sub hl [0, 1] rfl)
    · exact absurd c25 (by decide)
  · have vx := va_at.kept vx (hk _ (hw_lt vx) (hw_AWn G0 (by decide) (hw_lt vx)))
    refine lv_iconst (v := (-1)) hx hb dX11_land_11 (by decide) ?_
    refine lv_icmp_eq (tgt := 18) hx hb dX11_land_12 (by decide) (fun c56 => ?_) (fun c56 => ?_)
    · have b57 : x12.toInt = (-1) := hw_ieq c56
      exfalso; omega
    · have b58 : x12.toInt ≠ (-1) := hw_ine c56
      refine lv_bipush (v := (-4)) hx hb dX11_land_15 (by decide) ?_
      refine W.widen (k := 20) (n := 80) (by first | decide | omega) (by first | decide | omega) ?_
      exact hw_iretM (v := (-4)) hx hb hr hlocks hQ hS rfl (Or.inl ⟨pc_x, ks_x, sc_x, ln_t, x13, x14, x15, x16, x17, x18, G, rfl, hH, (fun _ _ => rfl), vx, v19, ⟨by first | decide | omega, by first | decide | omega⟩, ⟨by first | decide | omega, by first | decide | omega⟩, ⟨by first | decide | omega, by first | decide | omega⟩, ⟨by first | decide | omega, by first | decide | omega⟩, ⟨by first | decide | omega, by first | decide | omega⟩⟩) dX11_land_17

set_option maxHeartbeats 40000000 in
set_option maxRecDepth 100000 in
theorem k_X11_init (l : Launch) (D : hw_D) (G : Nat → Nat) (h0 : Nat) (sz : Nat) (G0 : G h0 = 101) : Met l yX11_init wsX11_init ({ frames := 2, cells := 92, slots := 3584, locals := 32 } : Room) (hw_PC D G [.ref h0] sz (fun H => va_at D.1 vwCl (h0, .inr (10, [.null, .null, .null, .null, .int 0, .int 0, .null, .null, .int 0, .null, .null, .int 0, .null, .null])) H)) (hw_QM (fun v H => ∃ (G2 : Nat → Nat) (r2 : Nat → Nat) (rc : Nat → Nat) (rt : Nat → Nat) (rn : Nat → Nat) (fq : Nat → Option Nat), v = none ∧ hw_HT D G2 H ∧ (∀ q, q < sz → q ≠ h0 → G2 q = G q) ∧ G2 h0 = 1 ∧ hw_RX G2 r2 ∧ va_at D.1 vwCl (h0, .inr (10, hw_LX r2 0 0 0 0)) H ∧ hw_RC G2 rc ∧ va_at D.1 vwCl (r2 0, .inr (1, hw_LC rc 0 0 0 60)) H ∧ hw_RT G2 rt ∧ va_at D.1 vwCl (r2 1, .inr (9, hw_LT rt 0 0 0 0 0 0 0)) H ∧ hw_RS G2 rn ∧ va_at D.1 vwCl (r2 2, .inr (8, hw_LS rn 0 0 0)) H ∧ va_at D.1 vwCl (r2 13, .inl (D.2.1 7, 4, .inr (.inr (.inr (.inr fq))))) H ∧ hw_Racks D G2 fq (fun _ => -1) (fun _ => 0) H) (hw_AW G [101, 102, 105, 106, 107, 108, 127, 128, 129, 132] sz)) 92 3584 (hw_AW G [101, 102, 105, 106, 107, 108, 127, 128, 129, 132] sz) := by
  refine hw_met (cc := cX11_init) (maxL := 2) (ret := none) (plainFor_of_name (by decide)) rfl (Nat.le_of_ble_eq_true rfl) ?_
  intro p e s m args below meth c QQ ls hsz hx hb hml hr hts hown hlocks hnm hH hK hST hF hQ hl
  subst hsz
  have hS : va_S (hw_AW G [101, 102, 105, 106, 107, 108, 127, 128, 129, 132] s.heap.size) s.heap s.heap [] := va_S.rf
  have va := hF
  have hl : lv_has ls 2 [(0, .ref h0)] := hl
  have u_10 : ∀ w ∈ u_ws RX11 TX11 14, w.before args s = true := fun w hw => hts w ((by decide +kernel : ∀ w ∈ u_ws RX11 TX11 14, w ∈ wsX11_init) w hw)
  have ff_10_10 : hw_FP s args m 10 10 0 true (.object "WardWalkers$Country") := ⟨RX11, "WardWalkers", RX11, TX11, 14, tyX11, u_10, hown, rfl, by decide, (hts (.fieldLink RX11 10 "WardWalkers" "country" "LWardWalkers$Country;") (by decide +kernel)), (fun _ h9 => h9), tyX11_ok, nmX11, rfl, fun _ => rfl, by decide +kernel⟩
  have ff_19_10 : hw_FP s args m 19 10 1 true (.object "WardWalkers$Text") := ⟨RX11, "WardWalkers", RX11, TX11, 14, tyX11, u_10, hown, rfl, by decide, (hts (.fieldLink RX11 19 "WardWalkers" "text" "LWardWalkers$Text;") (by decide +kernel)), (fun _ h9 => h9), tyX11_ok, nmX11, rfl, fun _ => rfl, by decide +kernel⟩
  have ff_26_10 : hw_FP s args m 26 10 2 true (.object "WardWalkers$Standing") := ⟨RX11, "WardWalkers", RX11, TX11, 14, tyX11, u_10, hown, rfl, by decide, (hts (.fieldLink RX11 26 "WardWalkers" "now" "LWardWalkers$Standing;") (by decide +kernel)), (fun _ h9 => h9), tyX11_ok, nmX11, rfl, fun _ => rfl, by decide +kernel⟩
  have ff_30_10 : hw_FP s args m 30 10 3 true (.array (.object "WardWalkers$Standing")) := ⟨RX11, "WardWalkers", RX11, TX11, 14, tyX11, u_10, hown, rfl, by decide, (hts (.fieldLink RX11 30 "WardWalkers" "past" "[LWardWalkers$Standing;") (by decide +kernel)), (fun _ h9 => h9), tyX11_ok, nmX11, rfl, fun _ => rfl, by decide +kernel⟩
  have ff_34_10 : hw_FP s args m 34 10 6 true (.array (.object "WardWalkers$Standing")) := ⟨RX11, "WardWalkers", RX11, TX11, 14, tyX11, u_10, hown, rfl, by decide, (hts (.fieldLink RX11 34 "WardWalkers" "keptStandings" "[LWardWalkers$Standing;") (by decide +kernel)), (fun _ h9 => h9), tyX11_ok, nmX11, rfl, fun _ => rfl, by decide +kernel⟩
  have ff_37_10 : hw_FP s args m 37 10 7 true (.array (.object "WardWalkers$Text")) := ⟨RX11, "WardWalkers", RX11, TX11, 14, tyX11, u_10, hown, rfl, by decide, (hts (.fieldLink RX11 37 "WardWalkers" "keptTexts" "[LWardWalkers$Text;") (by decide +kernel)), (fun _ h9 => h9), tyX11_ok, nmX11, rfl, fun _ => rfl, by decide +kernel⟩
  have ff_41_10 : hw_FP s args m 41 10 9 true (.array .int) := ⟨RX11, "WardWalkers", RX11, TX11, 14, tyX11, u_10, hown, rfl, by decide, (hts (.fieldLink RX11 41 "WardWalkers" "seenLocks" "[I") (by decide +kernel)), (fun _ h9 => h9), tyX11_ok, nmX11, rfl, fun _ => rfl, by decide +kernel⟩
  have ff_45_10 : hw_FP s args m 45 10 10 true (.array .int) := ⟨RX11, "WardWalkers", RX11, TX11, 14, tyX11, u_10, hown, rfl, by decide, (hts (.fieldLink RX11 45 "WardWalkers" "seenWent" "[I") (by decide +kernel)), (fun _ h9 => h9), tyX11_ok, nmX11, rfl, fun _ => rfl, by decide +kernel⟩
  have ff_51_10 : hw_FP s args m 51 10 12 true (.object "WardWalkers$Planner") := ⟨RX11, "WardWalkers", RX11, TX11, 14, tyX11, u_10, hown, rfl, by decide, (hts (.fieldLink RX11 51 "WardWalkers" "planner" "LWardWalkers$Planner;") (by decide +kernel)), (fun _ h9 => h9), tyX11_ok, nmX11, rfl, fun _ => rfl, by decide +kernel⟩
  have ff_57_10 : hw_FP s args m 57 10 13 true (.array (.object "WardWalkers$Rack")) := ⟨RX11, "WardWalkers", RX11, TX11, 14, tyX11, u_10, hown, rfl, by decide, (hts (.fieldLink RX11 57 "WardWalkers" "racks" "[LWardWalkers$Rack;") (by decide +kernel)), (fun _ h9 => h9), tyX11_ok, nmX11, rfl, fun _ => rfl, by decide +kernel⟩
  have fg_30_10 : hw_FG s args m 30 10 3 := ⟨RX11, "WardWalkers", RX11, TX11, 14, u_10, hown, rfl, by decide, (hts (.fieldLink RX11 30 "WardWalkers" "past" "[LWardWalkers$Standing;") (by decide +kernel)), (fun _ h9 => h9)⟩
  have fg_34_10 : hw_FG s args m 34 10 6 := ⟨RX11, "WardWalkers", RX11, TX11, 14, u_10, hown, rfl, by decide, (hts (.fieldLink RX11 34 "WardWalkers" "keptStandings" "[LWardWalkers$Standing;") (by decide +kernel)), (fun _ h9 => h9)⟩
  have fg_37_10 : hw_FG s args m 37 10 7 := ⟨RX11, "WardWalkers", RX11, TX11, 14, u_10, hown, rfl, by decide, (hts (.fieldLink RX11 37 "WardWalkers" "keptTexts" "[LWardWalkers$Text;") (by decide +kernel)), (fun _ h9 => h9)⟩
  have fg_57_10 : hw_FG s args m 57 10 13 := ⟨RX11, "WardWalkers", RX11, TX11, 14, u_10, hown, rfl, by decide, (hts (.fieldLink RX11 57 "WardWalkers" "racks" "[LWardWalkers$Rack;") (by decide +kernel)), (fun _ h9 => h9)⟩
  have hHs := hH
  refine lv_aload_n hx hb dX11_init_0 rfl (lv_at hl 0 rfl) ?_
  refine W.objInit hx hb hown (hts (.methodLink RX11 1 objectInit) (by decide +kernel)) (hts (.instanceMethod objectInit) (by decide +kernel)) (hts (.code objectInit ⟨#[0xb1]⟩ 1 none) (by decide +kernel)) rfl (by rw [hml]; exact hl.1) rfl dX11_init_1 (Nat.le_of_ble_eq_true rfl) (Nat.le_of_ble_eq_true rfl) ?_
  refine W.eq (g2 := F0 m 4 ls []) rfl ?_
  refine lv_aload_n hx hb dX11_init_4 rfl (lv_at hl 0 rfl) ?_
  have hS0 := hS
  refine hw_new hx hb 102 (ci := 1) (C := RX1) (T := TX1) (N := 7) hts (by decide +kernel) tyX1 tyX1_ok hown (hts (.classLink RX11 7 RX1) (by decide +kernel)) (hts (.instantiable RX1 7) (by decide +kernel)) (hts (.initialized RX1) (by decide +kernel)) hK hH hS rfl [.null, .int 0, .null, .int 0, .null, .int 0, .int 0] (fun j hj => by rcases (show j = 0 ∨ j = 1 ∨ j = 2 ∨ j = 3 ∨ j = 4 ∨ j = 5 ∨ j = 6 by omega) with rfl | rfl | rfl | rfl | rfl | rfl | rfl <;> rfl) (show hw_ok D.2.1 G 102 _ from ⟨_, rfl⟩) (Nat.le_of_ble_eq_true rfl) (Nat.le_of_ble_eq_true rfl) dX11_init_5 (fun q1 G2 H hH m3 m4 k5 l6 e7 v8 oq hz hS => ?_)
  have w9 : s.heap.size ≤ q1 := by have := hS0.1; omega
  have g10 : ∀ x, x < s.heap.size → G2 x = G x := fun x h9 => (l6 x (Nat.lt_of_lt_of_le h9 hS0.1)).trans ((fun _ _ => rfl) x h9)
  have va := va_at.kept va (oq _ (hw_lt va))
  have k11 := hw_kg2 m4 G0 (by decide)
  refine lv_dup hx hb dX11_init_8 rfl ?_
  have hHo := hH
  have hS0 := hS
  refine hw_cM (va_runIN (As := []) (rest := [.ref q1, .ref h0]) ⟨hx, hb, hml, hown, hts⟩ (k_X1_init l D G2 q1 _ k5) ⟨va_cnB 0 hts gX11_init_X1_init_n9 rfl rfl rfl (hw_en9 hST.ex) (hts (.initialized RX1) (by decide +kernel)) (by decide +kernel) ⟨Nat.le_of_ble_eq_true rfl, Nat.le_of_ble_eq_true rfl⟩, rfl, hts (.instanceMethod yX1_init) (by decide +kernel)⟩ (hw_pS hH hK hST hS (by decide) (hw_hG g10) v8) rfl rfl hl.1 rfl (lv_room (Nat.le_of_ble_eq_true rfl)) dX11_init_9 ⟨Nat.le_of_ble_eq_true rfl, Nat.le_of_ble_eq_true rfl⟩) hS (hw_AWsub (by decide) g10 hS.1) (fun v H locs hp hz hk hS => ?_)
  obtain ⟨G12, r15, rfl, hH, i13, k14, R16, v17⟩ := hp
  have va := va_at.kept va (hk _ (hw_lt va) (hw_AWn k11 (by decide) (hw_lt va)))
  have m18 : ∀ a, G2 a ≠ 0 → G2 a < 100 → G12 a = G2 a := fun a h0 h1 => i13 a (hHo.lt h0) (fun e => by rw [e, k5] at h1; exact absurd h1 (by decide))
  have g19 : ∀ x, x < s.heap.size → G12 x = G x := fun x h9 => (i13 x (Nat.lt_of_lt_of_le h9 hS0.1) (fun e => by have := w9; omega)).trans (g10 x h9)
  have k20 := hw_kg3 i13 hHo k5 k11 (by decide) (by decide)
  refine hw_putF (v := .ref q1) (fs' := [.ref q1, .null, .null, .null, .int 0, .int 0, .null, .null, .int 0, .null, .null, .int 0, .null, .null]) hx hb ff_10_10 hnm hK hH va (Nat.le_of_ble_eq_true rfl) rfl rfl rfl (fun _ => by rw [k20]; exact (show hw_ok D.2.1 G12 101 _ from ⟨_, rfl⟩)) hS (hw_AWi2 g19 k20 (by decide)) dX11_init_12 (fun H locs hH va oq hz hS => ?_)
  have v17 := va_at.kept v17 (oq _ (hw_ne k14 k20 (by decide)))
  refine lv_aload_n hx hb dX11_init_15 rfl (lv_at hl 0 rfl) ?_
  have hS0 := hS
  refine hw_new hx hb 108 (ci := 9) (C := RX10) (T := TX10) (N := 10) hts (by decide +kernel) tyX10 tyX10_ok hown (hts (.classLink RX11 16 RX10) (by decide +kernel)) (hts (.instantiable RX10 10) (by decide +kernel)) (hts (.initialized RX10) (by decide +kernel)) hK hH hS rfl [.null, .int 0, .int 0, .null, .null, .int 0, .int 0, .int 0, .int 0, .int 0] (fun j hj => by rcases (show j = 0 ∨ j = 1 ∨ j = 2 ∨ j = 3 ∨ j = 4 ∨ j = 5 ∨ j = 6 ∨ j = 7 ∨ j = 8 ∨ j = 9 by omega) with rfl | rfl | rfl | rfl | rfl | rfl | rfl | rfl | rfl | rfl <;> rfl) (show hw_ok D.2.1 G12 108 _ from ⟨_, rfl⟩) (Nat.le_of_ble_eq_true rfl) (Nat.le_of_ble_eq_true rfl) dX11_init_16 (fun q21 G22 H hH m23 m24 k25 l26 e27 v28 oq hz hS => ?_)
  have w29 : s.heap.size ≤ q21 := by have := hS0.1; omega
  have g30 : ∀ x, x < s.heap.size → G22 x = G x := fun x h9 => (l26 x (Nat.lt_of_lt_of_le h9 hS0.1)).trans (g19 x h9)
  have va := va_at.kept va (oq _ (hw_lt va))
  have v17 := va_at.kept v17 (oq _ (hw_lt v17))
  have k31 := hw_kg2 m24 k20 (by decide)
  have k32 := hw_kg m23 k14 (by decide) (by decide)
  have R33 := hw_RC_mono m23 R16
  refine lv_dup hx hb dX11_init_19 rfl ?_
  have hHo := hH
  have hS0 := hS
  refine hw_cM (va_runIN (As := []) (rest := [.ref q21, .ref h0]) ⟨hx, hb, hml, hown, hts⟩ (k_X10_init l D G22 q21 _ k25) ⟨va_cnB 0 hts gX11_init_X10_init_n18 rfl rfl rfl (hw_en18 hST.ex) (hts (.initialized RX10) (by decide +kernel)) (by decide +kernel) ⟨Nat.le_of_ble_eq_true rfl, Nat.le_of_ble_eq_true rfl⟩, rfl, hts (.instanceMethod yX10_init) (by decide +kernel)⟩ (hw_pS hH hK hST hS (by decide) (hw_hG g30) v28) rfl rfl hl.1 rfl (lv_room (Nat.le_of_ble_eq_true rfl)) dX11_init_20 ⟨Nat.le_of_ble_eq_true rfl, Nat.le_of_ble_eq_true rfl⟩) hS (hw_AWsub (by decide) g30 hS.1) (fun v H locs hp hz hk hS => ?_)
  obtain ⟨G34, r37, rfl, hH, i35, k36, R38, v39⟩ := hp
  have va := va_at.kept va (hk _ (hw_lt va) (hw_AWn k31 (by decide) (hw_lt va)))
  have v17 := va_at.kept v17 (hk _ (hw_lt v17) (hw_AWn k32 (by decide) (hw_lt v17)))
  have m40 : ∀ a, G22 a ≠ 0 → G22 a < 100 → G34 a = G22 a := fun a h0 h1 => i35 a (hHo.lt h0) (fun e => by rw [e, k25] at h1; exact absurd h1 (by decide))
  have g41 : ∀ x, x < s.heap.size → G34 x = G x := fun x h9 => (i35 x (Nat.lt_of_lt_of_le h9 hS0.1) (fun e => by have := w29; omega)).trans (g30 x h9)
  have k42 := hw_kg3 i35 hHo k25 k31 (by decide) (by decide)
  have k43 := hw_kg m40 k32 (by decide) (by decide)
  have R44 := hw_RC_mono m40 R33
  refine hw_putF (v := .ref q21) (fs' := [.ref q1, .ref q21, .null, .null, .int 0, .int 0, .null, .null, .int 0, .null, .null, .int 0, .null, .null]) hx hb ff_19_10 hnm hK hH va (Nat.le_of_ble_eq_true rfl) rfl rfl rfl (fun _ => by rw [k42]; exact (show hw_ok D.2.1 G34 101 _ from ⟨_, rfl⟩)) hS (hw_AWi2 g41 k42 (by decide)) dX11_init_23 (fun H locs hH va oq hz hS => ?_)
  have v17 := va_at.kept v17 (oq _ (hw_ne k43 k42 (by decide)))
  have v39 := va_at.kept v39 (oq _ (hw_ne k36 k42 (by decide)))
  refine lv_aload_n hx hb dX11_init_26 rfl (lv_at hl 0 rfl) ?_
  have hS0 := hS
  refine hw_new hx hb 107 (ci := 8) (C := RX9) (T := TX9) (N := 7) hts (by decide +kernel) tyX9 tyX9_ok hown (hts (.classLink RX11 23 RX9) (by decide +kernel)) (hts (.instantiable RX9 7) (by decide +kernel)) (hts (.initialized RX9) (by decide +kernel)) hK hH hS rfl [.int 0, .int 0, .int 0, .null, .null, .null, .null] (fun j hj => by rcases (show j = 0 ∨ j = 1 ∨ j = 2 ∨ j = 3 ∨ j = 4 ∨ j = 5 ∨ j = 6 by omega) with rfl | rfl | rfl | rfl | rfl | rfl | rfl <;> rfl) (show hw_ok D.2.1 G34 107 _ from ⟨_, rfl⟩) (Nat.le_of_ble_eq_true rfl) (Nat.le_of_ble_eq_true rfl) dX11_init_27 (fun q45 G46 H hH m47 m48 k49 l50 e51 v52 oq hz hS => ?_)
  have w53 : s.heap.size ≤ q45 := by have := hS0.1; omega
  have g54 : ∀ x, x < s.heap.size → G46 x = G x := fun x h9 => (l50 x (Nat.lt_of_lt_of_le h9 hS0.1)).trans (g41 x h9)
  have va := va_at.kept va (oq _ (hw_lt va))
  have v17 := va_at.kept v17 (oq _ (hw_lt v17))
  have v39 := va_at.kept v39 (oq _ (hw_lt v39))
  have k55 := hw_kg2 m48 k42 (by decide)
  have k56 := hw_kg m47 k43 (by decide) (by decide)
  have k57 := hw_kg m47 k36 (by decide) (by decide)
  have R58 := hw_RC_mono m47 R44
  have R59 := hw_RT_mono m47 R38
  refine lv_dup hx hb dX11_init_30 rfl ?_
  have hHo := hH
  have hS0 := hS
  refine hw_cM (va_runIN (As := []) (rest := [.ref q45, .ref h0]) ⟨hx, hb, hml, hown, hts⟩ (k_X9_init l D G46 q45 _ k49) ⟨va_cnB 0 hts gX11_init_X9_init_n25 rfl rfl rfl (hw_en25 hST.ex) (hts (.initialized RX9) (by decide +kernel)) (by decide +kernel) ⟨Nat.le_of_ble_eq_true rfl, Nat.le_of_ble_eq_true rfl⟩, rfl, hts (.instanceMethod yX9_init) (by decide +kernel)⟩ (hw_pS hH hK hST hS (by decide) (hw_hG g54) v52) rfl rfl hl.1 rfl (lv_room (Nat.le_of_ble_eq_true rfl)) dX11_init_31 ⟨Nat.le_of_ble_eq_true rfl, Nat.le_of_ble_eq_true rfl⟩) hS (hw_AWsub (by decide) g54 hS.1) (fun v H locs hp hz hk hS => ?_)
  obtain ⟨G60, r63, rfl, hH, i61, k62, R64, v65⟩ := hp
  have va := va_at.kept va (hk _ (hw_lt va) (hw_AWn k55 (by decide) (hw_lt va)))
  have v17 := va_at.kept v17 (hk _ (hw_lt v17) (hw_AWn k56 (by decide) (hw_lt v17)))
  have v39 := va_at.kept v39 (hk _ (hw_lt v39) (hw_AWn k57 (by decide) (hw_lt v39)))
  have m66 : ∀ a, G46 a ≠ 0 → G46 a < 100 → G60 a = G46 a := fun a h0 h1 => i61 a (hHo.lt h0) (fun e => by rw [e, k49] at h1; exact absurd h1 (by decide))
  have g67 : ∀ x, x < s.heap.size → G60 x = G x := fun x h9 => (i61 x (Nat.lt_of_lt_of_le h9 hS0.1) (fun e => by have := w53; omega)).trans (g54 x h9)
  have k68 := hw_kg3 i61 hHo k49 k55 (by decide) (by decide)
  have k69 := hw_kg m66 k56 (by decide) (by decide)
  have k70 := hw_kg m66 k57 (by decide) (by decide)
  have R71 := hw_RC_mono m66 R58
  have R72 := hw_RT_mono m66 R59
  refine hw_putF (v := .ref q45) (fs' := [.ref q1, .ref q21, .ref q45, .null, .int 0, .int 0, .null, .null, .int 0, .null, .null, .int 0, .null, .null]) hx hb ff_26_10 hnm hK hH va (Nat.le_of_ble_eq_true rfl) rfl rfl rfl (fun _ => by rw [k68]; exact (show hw_ok D.2.1 G60 101 _ from ⟨_, rfl⟩)) hS (hw_AWi2 g67 k68 (by decide)) dX11_init_34 (fun H locs hH va oq hz hS => ?_)
  have v17 := va_at.kept v17 (oq _ (hw_ne k69 k68 (by decide)))
  have v39 := va_at.kept v39 (oq _ (hw_ne k70 k68 (by decide)))
  have v65 := va_at.kept v65 (oq _ (hw_ne k62 k68 (by decide)))
  refine lv_aload_n hx hb dX11_init_37 rfl (lv_at hl 0 rfl) ?_
  refine lv_bipush (v := 8) hx hb dX11_init_38 (by decide) ?_
  have hS0 := hS
  refine hw_newq hx hb 127 hown (hts (.classLink RX11 23 RX9) (by decide +kernel)) (hw_eo_Standing hST.ex) (t := 5) rfl hK hH hS (n := 8) (N := 8) (show hw_ok D.2.1 G60 127 _ from ⟨_, rfl, fun _ _ _ h9 => by cases h9⟩) (by decide) (by decide) (by decide) (Nat.le_of_ble_eq_true rfl) (Nat.le_of_ble_eq_true rfl) dX11_init_40 (fun q73 G74 H hH m75 m76 k77 l78 e79 v80 oq hz hS => ?_)
  have w81 : s.heap.size ≤ q73 := by have := hS0.1; omega
  have g82 : ∀ x, x < s.heap.size → G74 x = G x := fun x h9 => (l78 x (Nat.lt_of_lt_of_le h9 hS0.1)).trans (g67 x h9)
  have va := va_at.kept va (oq _ (hw_lt va))
  have v17 := va_at.kept v17 (oq _ (hw_lt v17))
  have v39 := va_at.kept v39 (oq _ (hw_lt v39))
  have v65 := va_at.kept v65 (oq _ (hw_lt v65))
  have k83 := hw_kg2 m76 k68 (by decide)
  have k84 := hw_kg m75 k69 (by decide) (by decide)
  have k85 := hw_kg m75 k70 (by decide) (by decide)
  have k86 := hw_kg m75 k62 (by decide) (by decide)
  have R87 := hw_RC_mono m75 R71
  have R88 := hw_RT_mono m75 R72
  have R89 := hw_RS_mono m75 R64
  have q90 : ∀ j b, j < 8 → (fun _ => none) j = some b → G74 b = 7 := fun _ _ _ h9 => by cases h9
  refine hw_putF (v := .ref q73) (fs' := [.ref q1, .ref q21, .ref q45, .ref q73, .int 0, .int 0, .null, .null, .int 0, .null, .null, .int 0, .null, .null]) hx hb ff_30_10 hnm hK hH va (Nat.le_of_ble_eq_true rfl) rfl rfl rfl (fun _ => by rw [k83]; exact (show hw_ok D.2.1 G74 101 _ from ⟨_, rfl⟩)) hS (hw_AWi2 g82 k83 (by decide)) dX11_init_43 (fun H locs hH va oq hz hS => ?_)
  have v17 := va_at.kept v17 (oq _ (hw_ne k84 k83 (by decide)))
  have v39 := va_at.kept v39 (oq _ (hw_ne k85 k83 (by decide)))
  have v65 := va_at.kept v65 (oq _ (hw_ne k86 k83 (by decide)))
  have v80 := va_at.kept v80 (oq _ (hw_ne k77 k83 (by decide)))
  refine lv_aload_n hx hb dX11_init_46 rfl (lv_at hl 0 rfl) ?_
  refine lv_iconst (v := 2) hx hb dX11_init_47 (by decide) ?_
  have hS0 := hS
  refine hw_newq hx hb 128 hown (hts (.classLink RX11 23 RX9) (by decide +kernel)) (hw_eo_Standing hST.ex) (t := 5) rfl hK hH hS (n := 2) (N := 2) (show hw_ok D.2.1 G74 128 _ from ⟨_, rfl, fun _ _ _ h9 => by cases h9⟩) (by decide) (by decide) (by decide) (Nat.le_of_ble_eq_true rfl) (Nat.le_of_ble_eq_true rfl) dX11_init_48 (fun q91 G92 H hH m93 m94 k95 l96 e97 v98 oq hz hS => ?_)
  have w99 : s.heap.size ≤ q91 := by have := hS0.1; omega
  have g100 : ∀ x, x < s.heap.size → G92 x = G x := fun x h9 => (l96 x (Nat.lt_of_lt_of_le h9 hS0.1)).trans (g82 x h9)
  have va := va_at.kept va (oq _ (hw_lt va))
  have v17 := va_at.kept v17 (oq _ (hw_lt v17))
  have v39 := va_at.kept v39 (oq _ (hw_lt v39))
  have v65 := va_at.kept v65 (oq _ (hw_lt v65))
  have v80 := va_at.kept v80 (oq _ (hw_lt v80))
  have k101 := hw_kg2 m94 k83 (by decide)
  have k102 := hw_kg m93 k84 (by decide) (by decide)
  have k103 := hw_kg m93 k85 (by decide) (by decide)
  have k104 := hw_kg m93 k86 (by decide) (by decide)
  have k105 := hw_kg2 m94 k77 (by decide)
  have R106 := hw_RC_mono m93 R87
  have R107 := hw_RT_mono m93 R88
  have R108 := hw_RS_mono m93 R89
  have q109 := hw_qq m93 q90 (by decide) (by decide)
  have q110 : ∀ j b, j < 2 → (fun _ => none) j = some b → G92 b = 7 := fun _ _ _ h9 => by cases h9
  refine hw_putF (v := .ref q91) (fs' := [.ref q1, .ref q21, .ref q45, .ref q73, .int 0, .int 0, .ref q91, .null, .int 0, .null, .null, .int 0, .null, .null]) hx hb ff_34_10 hnm hK hH va (Nat.le_of_ble_eq_true rfl) rfl rfl rfl (fun _ => by rw [k101]; exact (show hw_ok D.2.1 G92 101 _ from ⟨_, rfl⟩)) hS (hw_AWi2 g100 k101 (by decide)) dX11_init_51 (fun H locs hH va oq hz hS => ?_)
  have v17 := va_at.kept v17 (oq _ (hw_ne k102 k101 (by decide)))
  have v39 := va_at.kept v39 (oq _ (hw_ne k103 k101 (by decide)))
  have v65 := va_at.kept v65 (oq _ (hw_ne k104 k101 (by decide)))
  have v80 := va_at.kept v80 (oq _ (hw_ne k105 k101 (by decide)))
  have v98 := va_at.kept v98 (oq _ (hw_ne k95 k101 (by decide)))
  refine lv_aload_n hx hb dX11_init_54 rfl (lv_at hl 0 rfl) ?_
  refine lv_iconst (v := 2) hx hb dX11_init_55 (by decide) ?_
  have hS0 := hS
  refine hw_newq hx hb 129 hown (hts (.classLink RX11 16 RX10) (by decide +kernel)) (hw_eo_Text hST.ex) (t := 6) rfl hK hH hS (n := 2) (N := 2) (show hw_ok D.2.1 G92 129 _ from ⟨_, rfl, fun _ _ _ h9 => by cases h9⟩) (by decide) (by decide) (by decide) (Nat.le_of_ble_eq_true rfl) (Nat.le_of_ble_eq_true rfl) dX11_init_56 (fun q111 G112 H hH m113 m114 k115 l116 e117 v118 oq hz hS => ?_)
  have w119 : s.heap.size ≤ q111 := by have := hS0.1; omega
  have g120 : ∀ x, x < s.heap.size → G112 x = G x := fun x h9 => (l116 x (Nat.lt_of_lt_of_le h9 hS0.1)).trans (g100 x h9)
  have va := va_at.kept va (oq _ (hw_lt va))
  have v17 := va_at.kept v17 (oq _ (hw_lt v17))
  have v39 := va_at.kept v39 (oq _ (hw_lt v39))
  have v65 := va_at.kept v65 (oq _ (hw_lt v65))
  have v80 := va_at.kept v80 (oq _ (hw_lt v80))
  have v98 := va_at.kept v98 (oq _ (hw_lt v98))
  have k121 := hw_kg2 m114 k101 (by decide)
  have k122 := hw_kg m113 k102 (by decide) (by decide)
  have k123 := hw_kg m113 k103 (by decide) (by decide)
  have k124 := hw_kg m113 k104 (by decide) (by decide)
  have k125 := hw_kg2 m114 k105 (by decide)
  have k126 := hw_kg2 m114 k95 (by decide)
  have R127 := hw_RC_mono m113 R106
  have R128 := hw_RT_mono m113 R107
  have R129 := hw_RS_mono m113 R108
  have q130 := hw_qq m113 q109 (by decide) (by decide)
  have q131 := hw_qq m113 q110 (by decide) (by decide)
  have q132 : ∀ j b, j < 2 → (fun _ => none) j = some b → G112 b = 8 := fun _ _ _ h9 => by cases h9
  refine hw_putF (v := .ref q111) (fs' := [.ref q1, .ref q21, .ref q45, .ref q73, .int 0, .int 0, .ref q91, .ref q111, .int 0, .null, .null, .int 0, .null, .null]) hx hb ff_37_10 hnm hK hH va (Nat.le_of_ble_eq_true rfl) rfl rfl rfl (fun _ => by rw [k121]; exact (show hw_ok D.2.1 G112 101 _ from ⟨_, rfl⟩)) hS (hw_AWi2 g120 k121 (by decide)) dX11_init_59 (fun H locs hH va oq hz hS => ?_)
  have v17 := va_at.kept v17 (oq _ (hw_ne k122 k121 (by decide)))
  have v39 := va_at.kept v39 (oq _ (hw_ne k123 k121 (by decide)))
  have v65 := va_at.kept v65 (oq _ (hw_ne k124 k121 (by decide)))
  have v80 := va_at.kept v80 (oq _ (hw_ne k125 k121 (by decide)))
  have v98 := va_at.kept v98 (oq _ (hw_ne k126 k121 (by decide)))
  have v118 := va_at.kept v118 (oq _ (hw_ne k115 k121 (by decide)))
  refine lv_aload_n hx hb dX11_init_62 rfl (lv_at hl 0 rfl) ?_
  refine lv_bipush (v := 6) hx hb dX11_init_63 (by decide) ?_
  have hS0 := hS
  refine hw_newa hx hb 30 (atype := .int) (hts (.arrayClass .int) (by decide +kernel)) (ty := .int) rfl (t := 0) rfl (fun _ h9 => h9) hK hH hS (n := 6) (N := 6) (6, .inl (fun _ => 0)) (fun _ => rfl) (show hw_ok D.2.1 G112 30 _ from ⟨_, rfl⟩) (by decide) (by decide) (by decide) (Nat.le_of_ble_eq_true rfl) (Nat.le_of_ble_eq_true rfl) dX11_init_65 (fun q133 G134 H hH m135 m136 k137 l138 e139 v140 oq hz hS => ?_)
  have w141 : s.heap.size ≤ q133 := by have := hS0.1; omega
  have g142 : ∀ x, x < s.heap.size → G134 x = G x := fun x h9 => (l138 x (Nat.lt_of_lt_of_le h9 hS0.1)).trans (g120 x h9)
  have va := va_at.kept va (oq _ (hw_lt va))
  have v17 := va_at.kept v17 (oq _ (hw_lt v17))
  have v39 := va_at.kept v39 (oq _ (hw_lt v39))
  have v65 := va_at.kept v65 (oq _ (hw_lt v65))
  have v80 := va_at.kept v80 (oq _ (hw_lt v80))
  have v98 := va_at.kept v98 (oq _ (hw_lt v98))
  have v118 := va_at.kept v118 (oq _ (hw_lt v118))
  have k143 := hw_kg2 m136 k121 (by decide)
  have k144 := hw_kg m135 k122 (by decide) (by decide)
  have k145 := hw_kg m135 k123 (by decide) (by decide)
  have k146 := hw_kg m135 k124 (by decide) (by decide)
  have k147 := hw_kg2 m136 k125 (by decide)
  have k148 := hw_kg2 m136 k126 (by decide)
  have k149 := hw_kg2 m136 k115 (by decide)
  have R150 := hw_RC_mono m135 R127
  have R151 := hw_RT_mono m135 R128
  have R152 := hw_RS_mono m135 R129
  have q153 := hw_qq m135 q130 (by decide) (by decide)
  have q154 := hw_qq m135 q131 (by decide) (by decide)
  have q155 := hw_qq m135 q132 (by decide) (by decide)
  refine hw_putF (v := .ref q133) (fs' := [.ref q1, .ref q21, .ref q45, .ref q73, .int 0, .int 0, .ref q91, .ref q111, .int 0, .ref q133, .null, .int 0, .null, .null]) hx hb ff_41_10 hnm hK hH va (Nat.le_of_ble_eq_true rfl) rfl rfl rfl (fun _ => by rw [k143]; exact (show hw_ok D.2.1 G134 101 _ from ⟨_, rfl⟩)) hS (hw_AWi2 g142 k143 (by decide)) dX11_init_67 (fun H locs hH va oq hz hS => ?_)
  have v17 := va_at.kept v17 (oq _ (hw_ne k144 k143 (by decide)))
  have v39 := va_at.kept v39 (oq _ (hw_ne k145 k143 (by decide)))
  have v65 := va_at.kept v65 (oq _ (hw_ne k146 k143 (by decide)))
  have v80 := va_at.kept v80 (oq _ (hw_ne k147 k143 (by decide)))
  have v98 := va_at.kept v98 (oq _ (hw_ne k148 k143 (by decide)))
  have v118 := va_at.kept v118 (oq _ (hw_ne k149 k143 (by decide)))
  refine lv_aload_n hx hb dX11_init_70 rfl (lv_at hl 0 rfl) ?_
  refine lv_bipush (v := 6) hx hb dX11_init_71 (by decide) ?_
  have hS0 := hS
  refine hw_newa hx hb 31 (atype := .int) (hts (.arrayClass .int) (by decide +kernel)) (ty := .int) rfl (t := 0) rfl (fun _ h9 => h9) hK hH hS (n := 6) (N := 6) (6, .inl (fun _ => 0)) (fun _ => rfl) (show hw_ok D.2.1 G134 31 _ from ⟨_, rfl⟩) (by decide) (by decide) (by decide) (Nat.le_of_ble_eq_true rfl) (Nat.le_of_ble_eq_true rfl) dX11_init_73 (fun q156 G157 H hH m158 m159 k160 l161 e162 v163 oq hz hS => ?_)
  have w164 : s.heap.size ≤ q156 := by have := hS0.1; omega
  have g165 : ∀ x, x < s.heap.size → G157 x = G x := fun x h9 => (l161 x (Nat.lt_of_lt_of_le h9 hS0.1)).trans (g142 x h9)
  have va := va_at.kept va (oq _ (hw_lt va))
  have v17 := va_at.kept v17 (oq _ (hw_lt v17))
  have v39 := va_at.kept v39 (oq _ (hw_lt v39))
  have v65 := va_at.kept v65 (oq _ (hw_lt v65))
  have v80 := va_at.kept v80 (oq _ (hw_lt v80))
  have v98 := va_at.kept v98 (oq _ (hw_lt v98))
  have v118 := va_at.kept v118 (oq _ (hw_lt v118))
  have k166 := hw_kg2 m159 k143 (by decide)
  have k167 := hw_kg m158 k144 (by decide) (by decide)
  have k168 := hw_kg m158 k145 (by decide) (by decide)
  have k169 := hw_kg m158 k146 (by decide) (by decide)
  have k170 := hw_kg2 m159 k147 (by decide)
  have k171 := hw_kg2 m159 k148 (by decide)
  have k172 := hw_kg2 m159 k149 (by decide)
  have k173 := hw_kg m158 k137 (by decide) (by decide)
  have R174 := hw_RC_mono m158 R150
  have R175 := hw_RT_mono m158 R151
  have R176 := hw_RS_mono m158 R152
  have q177 := hw_qq m158 q153 (by decide) (by decide)
  have q178 := hw_qq m158 q154 (by decide) (by decide)
  have q179 := hw_qq m158 q155 (by decide) (by decide)
  refine hw_putF (v := .ref q156) (fs' := [.ref q1, .ref q21, .ref q45, .ref q73, .int 0, .int 0, .ref q91, .ref q111, .int 0, .ref q133, .ref q156, .int 0, .null, .null]) hx hb ff_45_10 hnm hK hH va (Nat.le_of_ble_eq_true rfl) rfl rfl rfl (fun _ => by rw [k166]; exact (show hw_ok D.2.1 G157 101 _ from ⟨_, rfl⟩)) hS (hw_AWi2 g165 k166 (by decide)) dX11_init_75 (fun H locs hH va oq hz hS => ?_)
  have v17 := va_at.kept v17 (oq _ (hw_ne k167 k166 (by decide)))
  have v39 := va_at.kept v39 (oq _ (hw_ne k168 k166 (by decide)))
  have v65 := va_at.kept v65 (oq _ (hw_ne k169 k166 (by decide)))
  have v80 := va_at.kept v80 (oq _ (hw_ne k170 k166 (by decide)))
  have v98 := va_at.kept v98 (oq _ (hw_ne k171 k166 (by decide)))
  have v118 := va_at.kept v118 (oq _ (hw_ne k172 k166 (by decide)))
  refine lv_aload_n hx hb dX11_init_78 rfl (lv_at hl 0 rfl) ?_
  have hS0 := hS
  refine hw_new hx hb 105 (ci := 5) (C := RX6) (T := TX6) (N := 7) hts (by decide +kernel) tyX6 tyX6_ok hown (hts (.classLink RX11 48 RX6) (by decide +kernel)) (hts (.instantiable RX6 7) (by decide +kernel)) (hts (.initialized RX6) (by decide +kernel)) hK hH hS rfl [.null, .null, .null, .int 0, .null, .null, .null] (fun j hj => by rcases (show j = 0 ∨ j = 1 ∨ j = 2 ∨ j = 3 ∨ j = 4 ∨ j = 5 ∨ j = 6 by omega) with rfl | rfl | rfl | rfl | rfl | rfl | rfl <;> rfl) (show hw_ok D.2.1 G157 105 _ from ⟨_, rfl⟩) (Nat.le_of_ble_eq_true rfl) (Nat.le_of_ble_eq_true rfl) dX11_init_79 (fun q180 G181 H hH m182 m183 k184 l185 e186 v187 oq hz hS => ?_)
  have w188 : s.heap.size ≤ q180 := by have := hS0.1; omega
  have g189 : ∀ x, x < s.heap.size → G181 x = G x := fun x h9 => (l185 x (Nat.lt_of_lt_of_le h9 hS0.1)).trans (g165 x h9)
  have va := va_at.kept va (oq _ (hw_lt va))
  have v17 := va_at.kept v17 (oq _ (hw_lt v17))
  have v39 := va_at.kept v39 (oq _ (hw_lt v39))
  have v65 := va_at.kept v65 (oq _ (hw_lt v65))
  have v80 := va_at.kept v80 (oq _ (hw_lt v80))
  have v98 := va_at.kept v98 (oq _ (hw_lt v98))
  have v118 := va_at.kept v118 (oq _ (hw_lt v118))
  have k190 := hw_kg2 m183 k166 (by decide)
  have k191 := hw_kg m182 k167 (by decide) (by decide)
  have k192 := hw_kg m182 k168 (by decide) (by decide)
  have k193 := hw_kg m182 k169 (by decide) (by decide)
  have k194 := hw_kg2 m183 k170 (by decide)
  have k195 := hw_kg2 m183 k171 (by decide)
  have k196 := hw_kg2 m183 k172 (by decide)
  have k197 := hw_kg m182 k173 (by decide) (by decide)
  have k198 := hw_kg m182 k160 (by decide) (by decide)
  have R199 := hw_RC_mono m182 R174
  have R200 := hw_RT_mono m182 R175
  have R201 := hw_RS_mono m182 R176
  have q202 := hw_qq m182 q177 (by decide) (by decide)
  have q203 := hw_qq m182 q178 (by decide) (by decide)
  have q204 := hw_qq m182 q179 (by decide) (by decide)
  refine lv_dup hx hb dX11_init_82 rfl ?_
  have hHo := hH
  have hS0 := hS
  refine hw_cM (va_runIN (As := []) (rest := [.ref q180, .ref h0]) ⟨hx, hb, hml, hown, hts⟩ (k_X6_init l D G181 q180 _ k184) ⟨va_cnB 0 hts gX11_init_X6_init_n50 rfl rfl rfl (hw_en50 hST.ex) (hts (.initialized RX6) (by decide +kernel)) (by decide +kernel) ⟨Nat.le_of_ble_eq_true rfl, Nat.le_of_ble_eq_true rfl⟩, rfl, hts (.instanceMethod yX6_init) (by decide +kernel)⟩ (hw_pS hH hK hST hS (by decide) (hw_hG g189) v187) rfl rfl hl.1 rfl (lv_room (Nat.le_of_ble_eq_true rfl)) dX11_init_83 ⟨Nat.le_of_ble_eq_true rfl, Nat.le_of_ble_eq_true rfl⟩) hS (hw_AWsub (by decide) g189 hS.1) (fun v H locs hp hz hk hS => ?_)
  obtain ⟨G205, rfl, hH, i206, k207⟩ := hp
  have va := va_at.kept va (hk _ (hw_lt va) (hw_AWn k190 (by decide) (hw_lt va)))
  have v17 := va_at.kept v17 (hk _ (hw_lt v17) (hw_AWn k191 (by decide) (hw_lt v17)))
  have v39 := va_at.kept v39 (hk _ (hw_lt v39) (hw_AWn k192 (by decide) (hw_lt v39)))
  have v65 := va_at.kept v65 (hk _ (hw_lt v65) (hw_AWn k193 (by decide) (hw_lt v65)))
  have v80 := va_at.kept v80 (hk _ (hw_lt v80) (hw_AWn k194 (by decide) (hw_lt v80)))
  have v98 := va_at.kept v98 (hk _ (hw_lt v98) (hw_AWn k195 (by decide) (hw_lt v98)))
  have v118 := va_at.kept v118 (hk _ (hw_lt v118) (hw_AWn k196 (by decide) (hw_lt v118)))
  have m208 : ∀ a, G181 a ≠ 0 → G181 a < 100 → G205 a = G181 a := fun a h0 h1 => i206 a (hHo.lt h0) (fun e => by rw [e, k184] at h1; exact absurd h1 (by decide))
  have g209 : ∀ x, x < s.heap.size → G205 x = G x := fun x h9 => (i206 x (Nat.lt_of_lt_of_le h9 hS0.1) (fun e => by have := w188; omega)).trans (g189 x h9)
  have k210 := hw_kg3 i206 hHo k184 k190 (by decide) (by decide)
  have k211 := hw_kg m208 k191 (by decide) (by decide)
  have k212 := hw_kg m208 k192 (by decide) (by decide)
  have k213 := hw_kg m208 k193 (by decide) (by decide)
  have k214 := hw_kg3 i206 hHo k184 k194 (by decide) (by decide)
  have k215 := hw_kg3 i206 hHo k184 k195 (by decide) (by decide)
  have k216 := hw_kg3 i206 hHo k184 k196 (by decide) (by decide)
  have k217 := hw_kg m208 k197 (by decide) (by decide)
  have k218 := hw_kg m208 k198 (by decide) (by decide)
  have R219 := hw_RC_mono m208 R199
  have R220 := hw_RT_mono m208 R200
  have R221 := hw_RS_mono m208 R201
  have q222 := hw_qq m208 q202 (by decide) (by decide)
  have q223 := hw_qq m208 q203 (by decide) (by decide)
  have q224 := hw_qq m208 q204 (by decide) (by decide)
  refine hw_putF (v := .ref q180) (fs' := [.ref q1, .ref q21, .ref q45, .ref q73, .int 0, .int 0, .ref q91, .ref q111, .int 0, .ref q133, .ref q156, .int 0, .ref q180, .null]) hx hb ff_51_10 hnm hK hH va (Nat.le_of_ble_eq_true rfl) rfl rfl rfl (fun _ => by rw [k210]; exact (show hw_ok D.2.1 G205 101 _ from ⟨_, rfl⟩)) hS (hw_AWi2 g209 k210 (by decide)) dX11_init_86 (fun H locs hH va oq hz hS => ?_)
  have v17 := va_at.kept v17 (oq _ (hw_ne k211 k210 (by decide)))
  have v39 := va_at.kept v39 (oq _ (hw_ne k212 k210 (by decide)))
  have v65 := va_at.kept v65 (oq _ (hw_ne k213 k210 (by decide)))
  have v80 := va_at.kept v80 (oq _ (hw_ne k214 k210 (by decide)))
  have v98 := va_at.kept v98 (oq _ (hw_ne k215 k210 (by decide)))
  have v118 := va_at.kept v118 (oq _ (hw_ne k216 k210 (by decide)))
  refine lv_aload_n hx hb dX11_init_89 rfl (lv_at hl 0 rfl) ?_
  refine lv_iconst (v := 4) hx hb dX11_init_90 (by decide) ?_
  have hS0 := hS
  refine hw_newq hx hb 132 hown (hts (.classLink RX11 55 RX7) (by decide +kernel)) (hw_eo_Rack hST.ex) (t := 7) rfl hK hH hS (n := 4) (N := 4) (show hw_ok D.2.1 G205 132 _ from ⟨_, rfl, fun _ _ _ h9 => by cases h9⟩) (by decide) (by decide) (by decide) (Nat.le_of_ble_eq_true rfl) (Nat.le_of_ble_eq_true rfl) dX11_init_91 (fun q225 G226 H hH m227 m228 k229 l230 e231 v232 oq hz hS => ?_)
  have w233 : s.heap.size ≤ q225 := by have := hS0.1; omega
  have g234 : ∀ x, x < s.heap.size → G226 x = G x := fun x h9 => (l230 x (Nat.lt_of_lt_of_le h9 hS0.1)).trans (g209 x h9)
  have va := va_at.kept va (oq _ (hw_lt va))
  have v17 := va_at.kept v17 (oq _ (hw_lt v17))
  have v39 := va_at.kept v39 (oq _ (hw_lt v39))
  have v65 := va_at.kept v65 (oq _ (hw_lt v65))
  have v80 := va_at.kept v80 (oq _ (hw_lt v80))
  have v98 := va_at.kept v98 (oq _ (hw_lt v98))
  have v118 := va_at.kept v118 (oq _ (hw_lt v118))
  have k235 := hw_kg2 m228 k210 (by decide)
  have k236 := hw_kg m227 k211 (by decide) (by decide)
  have k237 := hw_kg m227 k212 (by decide) (by decide)
  have k238 := hw_kg m227 k213 (by decide) (by decide)
  have k239 := hw_kg2 m228 k214 (by decide)
  have k240 := hw_kg2 m228 k215 (by decide)
  have k241 := hw_kg2 m228 k216 (by decide)
  have k242 := hw_kg m227 k217 (by decide) (by decide)
  have k243 := hw_kg m227 k218 (by decide) (by decide)
  have k244 := hw_kg m227 k207 (by decide) (by decide)
  have R245 := hw_RC_mono m227 R219
  have R246 := hw_RT_mono m227 R220
  have R247 := hw_RS_mono m227 R221
  have q248 := hw_qq m227 q222 (by decide) (by decide)
  have q249 := hw_qq m227 q223 (by decide) (by decide)
  have q250 := hw_qq m227 q224 (by decide) (by decide)
  have q251 : ∀ j b, j < 4 → (fun _ => none) j = some b → G226 b = 6 := fun _ _ _ h9 => by cases h9
  refine hw_putF (v := .ref q225) (fs' := [.ref q1, .ref q21, .ref q45, .ref q73, .int 0, .int 0, .ref q91, .ref q111, .int 0, .ref q133, .ref q156, .int 0, .ref q180, .ref q225]) hx hb ff_57_10 hnm hK hH va (Nat.le_of_ble_eq_true rfl) rfl rfl rfl (fun _ => by rw [k235]; exact (show hw_ok D.2.1 G226 101 _ from ⟨_, rfl⟩)) hS (hw_AWi2 g234 k235 (by decide)) dX11_init_94 (fun H locs hH va oq hz hS => ?_)
  have v17 := va_at.kept v17 (oq _ (hw_ne k236 k235 (by decide)))
  have v39 := va_at.kept v39 (oq _ (hw_ne k237 k235 (by decide)))
  have v65 := va_at.kept v65 (oq _ (hw_ne k238 k235 (by decide)))
  have v80 := va_at.kept v80 (oq _ (hw_ne k239 k235 (by decide)))
  have v98 := va_at.kept v98 (oq _ (hw_ne k240 k235 (by decide)))
  have v118 := va_at.kept v118 (oq _ (hw_ne k241 k235 (by decide)))
  have v232 := va_at.kept v232 (oq _ (hw_ne k229 k235 (by decide)))
  refine lv_iconst (v := 0) hx hb dX11_init_97 (by decide) ?_
  refine lv_istore_n (lv' := [(1, .int 0), (0, .ref h0)]) hx hb dX11_init_98 rfl hl (by decide) rfl (fun ls hl => ?_)
  refine lv_iload_n hx hb dX11_init_99 rfl (lv_at hl 0 rfl) ?_
  refine lv_bipush (v := 8) hx hb dX11_init_100 (by decide) ?_
  refine lv_icmp_ge (tgt := 124) hx hb dX11_init_102 (by decide) (fun c252 => ?_) (fun c252 => ?_)
  · exact absurd c252 (by decide)
  · refine lv_aload_n hx hb dX11_init_105 rfl (lv_at hl 1 rfl) ?_
    refine hw_get hx hb fg_30_10 hK va rfl dX11_init_106 ?_
    refine lv_iload_n hx hb dX11_init_109 rfl (lv_at hl 0 rfl) ?_
    have hS0 := hS
    refine hw_new hx hb 107 (ci := 8) (C := RX9) (T := TX9) (N := 7) hts (by decide +kernel) tyX9 tyX9_ok hown (hts (.classLink RX11 23 RX9) (by decide +kernel)) (hts (.instantiable RX9 7) (by decide +kernel)) (hts (.initialized RX9) (by decide +kernel)) hK hH hS rfl [.int 0, .int 0, .int 0, .null, .null, .null, .null] (fun j hj => by rcases (show j = 0 ∨ j = 1 ∨ j = 2 ∨ j = 3 ∨ j = 4 ∨ j = 5 ∨ j = 6 by omega) with rfl | rfl | rfl | rfl | rfl | rfl | rfl <;> rfl) (show hw_ok D.2.1 G226 107 _ from ⟨_, rfl⟩) (Nat.le_of_ble_eq_true rfl) (Nat.le_of_ble_eq_true rfl) dX11_init_110 (fun q253 G254 H hH m255 m256 k257 l258 e259 v260 oq hz hS => ?_)
    have w261 : s.heap.size ≤ q253 := by have := hS0.1; omega
    have g262 : ∀ x, x < s.heap.size → G254 x = G x := fun x h9 => (l258 x (Nat.lt_of_lt_of_le h9 hS0.1)).trans (g234 x h9)
    have va := va_at.kept va (oq _ (hw_lt va))
    have v17 := va_at.kept v17 (oq _ (hw_lt v17))
    have v39 := va_at.kept v39 (oq _ (hw_lt v39))
    have v65 := va_at.kept v65 (oq _ (hw_lt v65))
    have v80 := va_at.kept v80 (oq _ (hw_lt v80))
    have v98 := va_at.kept v98 (oq _ (hw_lt v98))
    have v118 := va_at.kept v118 (oq _ (hw_lt v118))
    have v232 := va_at.kept v232 (oq _ (hw_lt v232))
    have k263 := hw_kg2 m256 k239 (by decide)
    have k264 := hw_kg2 m256 k235 (by decide)
    have k265 := hw_kg m255 k236 (by decide) (by decide)
    have k266 := hw_kg m255 k237 (by decide) (by decide)
    have k267 := hw_kg m255 k238 (by decide) (by decide)
    have k268 := hw_kg2 m256 k240 (by decide)
    have k269 := hw_kg2 m256 k241 (by decide)
    have k270 := hw_kg m255 k242 (by decide) (by decide)
    have k271 := hw_kg m255 k243 (by decide) (by decide)
    have k272 := hw_kg m255 k244 (by decide) (by decide)
    have k273 := hw_kg2 m256 k229 (by decide)
    have R274 := hw_RC_mono m255 R245
    have R275 := hw_RT_mono m255 R246
    have R276 := hw_RS_mono m255 R247
    have q277 := hw_qq m255 q248 (by decide) (by decide)
    have q278 := hw_qq m255 q249 (by decide) (by decide)
    have q279 := hw_qq m255 q250 (by decide) (by decide)
    have q280 := hw_qq m255 q251 (by decide) (by decide)
    refine lv_dup hx hb dX11_init_113 rfl ?_
    have hHo := hH
    have hS0 := hS
    refine hw_cM (va_runIN (As := []) (rest := [.ref q253, .int 0, .ref q73]) ⟨hx, hb, hml, hown, hts⟩ (k_X9_init l D G254 q253 _ k257) ⟨va_cnB 0 hts gX11_init_X9_init_n25 rfl rfl rfl (hw_en25 hST.ex) (hts (.initialized RX9) (by decide +kernel)) (by decide +kernel) ⟨Nat.le_of_ble_eq_true rfl, Nat.le_of_ble_eq_true rfl⟩, rfl, hts (.instanceMethod yX9_init) (by decide +kernel)⟩ (hw_pS hH hK hST hS (by decide) (hw_hG g262) v260) rfl rfl hl.1 rfl (lv_room (Nat.le_of_ble_eq_true rfl)) dX11_init_114 ⟨Nat.le_of_ble_eq_true rfl, Nat.le_of_ble_eq_true rfl⟩) hS (hw_AWsub (by decide) g262 hS.1) (fun v H locs hp hz hk hS => ?_)
    obtain ⟨G281, r284, rfl, hH, i282, k283, R285, v286⟩ := hp
    have va := va_at.kept va (hk _ (hw_lt va) (hw_AWn k264 (by decide) (hw_lt va)))
    have v17 := va_at.kept v17 (hk _ (hw_lt v17) (hw_AWn k265 (by decide) (hw_lt v17)))
    have v39 := va_at.kept v39 (hk _ (hw_lt v39) (hw_AWn k266 (by decide) (hw_lt v39)))
    have v65 := va_at.kept v65 (hk _ (hw_lt v65) (hw_AWn k267 (by decide) (hw_lt v65)))
    have v80 := va_at.kept v80 (hk _ (hw_lt v80) (hw_AWn k263 (by decide) (hw_lt v80)))
    have v98 := va_at.kept v98 (hk _ (hw_lt v98) (hw_AWn k268 (by decide) (hw_lt v98)))
    have v118 := va_at.kept v118 (hk _ (hw_lt v118) (hw_AWn k269 (by decide) (hw_lt v118)))
    have v232 := va_at.kept v232 (hk _ (hw_lt v232) (hw_AWn k273 (by decide) (hw_lt v232)))
    have m287 : ∀ a, G254 a ≠ 0 → G254 a < 100 → G281 a = G254 a := fun a h0 h1 => i282 a (hHo.lt h0) (fun e => by rw [e, k257] at h1; exact absurd h1 (by decide))
    have g288 : ∀ x, x < s.heap.size → G281 x = G x := fun x h9 => (i282 x (Nat.lt_of_lt_of_le h9 hS0.1) (fun e => by have := w261; omega)).trans (g262 x h9)
    have k289 := hw_kg3 i282 hHo k257 k263 (by decide) (by decide)
    have k290 := hw_kg3 i282 hHo k257 k264 (by decide) (by decide)
    have k291 := hw_kg m287 k265 (by decide) (by decide)
    have k292 := hw_kg m287 k266 (by decide) (by decide)
    have k293 := hw_kg m287 k267 (by decide) (by decide)
    have k294 := hw_kg3 i282 hHo k257 k268 (by decide) (by decide)
    have k295 := hw_kg3 i282 hHo k257 k269 (by decide) (by decide)
    have k296 := hw_kg m287 k270 (by decide) (by decide)
    have k297 := hw_kg m287 k271 (by decide) (by decide)
    have k298 := hw_kg m287 k272 (by decide) (by decide)
    have k299 := hw_kg3 i282 hHo k257 k273 (by decide) (by decide)
    have R300 := hw_RC_mono m287 R274
    have R301 := hw_RT_mono m287 R275
    have R302 := hw_RS_mono m287 R276
    have q303 := hw_qq m287 q277 (by decide) (by decide)
    have q304 := hw_qq m287 q278 (by decide) (by decide)
    have q305 := hw_qq m287 q279 (by decide) (by decide)
    have q306 := hw_qq m287 q280 (by decide) (by decide)
    refine hw_aast (t := 5) (ci := 8) (q := (RX9, TX9, 7)) hx hb hK hH v80 rfl v286 rfl (fun comp c0 h1 h2 => by cases h1.symm.trans h2; exact va_asg _ _) (hw_in (x := 0) (by decide) (by decide)) (fun _ => by rw [k289]; exact ⟨_, rfl, hw_upq q303 k283⟩) hS (Or.inr w81) dX11_init_117 (fun H locs hH v80 oq hz hS => ?_)
    have va := va_at.kept va (oq _ (hw_ne k290 k289 (by decide)))
    have v17 := va_at.kept v17 (oq _ (hw_ne k291 k289 (by decide)))
    have v39 := va_at.kept v39 (oq _ (hw_ne k292 k289 (by decide)))
    have v65 := va_at.kept v65 (oq _ (hw_ne k293 k289 (by decide)))
    have v98 := va_at.kept v98 (oq _ (hw_ne k294 k289 (by decide)))
    have v118 := va_at.kept v118 (oq _ (hw_ne k295 k289 (by decide)))
    have v232 := va_at.kept v232 (oq _ (hw_ne k299 k289 (by decide)))
    have v286 := va_at.kept v286 (oq _ (hw_ne k283 k289 (by decide)))
    have q309 : ∀ j b, j < 8 → (va_up (fun _ => none) (0 : Int32).toNatClampNeg (some q253)) j = some b → G281 b = 7 := hw_upq q303 k283
    refine lv_iinc (v := 1) (lv' := [(1, .int 1), (0, .ref h0)]) hx hb dX11_init_118 hl (k := 0) rfl (by rfl) (by decide) rfl (fun ls hl => ?_)
    refine lv_goto (tgt := 99) hx hb dX11_init_121 (by decide) ?_
    refine lv_iload_n hx hb dX11_init_99 rfl (lv_at hl 0 rfl) ?_
    refine lv_bipush (v := 8) hx hb dX11_init_100 (by decide) ?_
    refine lv_icmp_ge (tgt := 124) hx hb dX11_init_102 (by decide) (fun c310 => ?_) (fun c310 => ?_)
    · exact absurd c310 (by decide)
    · refine lv_aload_n hx hb dX11_init_105 rfl (lv_at hl 1 rfl) ?_
      refine hw_get hx hb fg_30_10 hK va rfl dX11_init_106 ?_
      refine lv_iload_n hx hb dX11_init_109 rfl (lv_at hl 0 rfl) ?_
      have hS0 := hS
      refine hw_new hx hb 107 (ci := 8) (C := RX9) (T := TX9) (N := 7) hts (by decide +kernel) tyX9 tyX9_ok hown (hts (.classLink RX11 23 RX9) (by decide +kernel)) (hts (.instantiable RX9 7) (by decide +kernel)) (hts (.initialized RX9) (by decide +kernel)) hK hH hS rfl [.int 0, .int 0, .int 0, .null, .null, .null, .null] (fun j hj => by rcases (show j = 0 ∨ j = 1 ∨ j = 2 ∨ j = 3 ∨ j = 4 ∨ j = 5 ∨ j = 6 by omega) with rfl | rfl | rfl | rfl | rfl | rfl | rfl <;> rfl) (show hw_ok D.2.1 G281 107 _ from ⟨_, rfl⟩) (Nat.le_of_ble_eq_true rfl) (Nat.le_of_ble_eq_true rfl) dX11_init_110 (fun q311 G312 H hH m313 m314 k315 l316 e317 v318 oq hz hS => ?_)
      have w319 : s.heap.size ≤ q311 := by have := hS0.1; omega
      have g320 : ∀ x, x < s.heap.size → G312 x = G x := fun x h9 => (l316 x (Nat.lt_of_lt_of_le h9 hS0.1)).trans (g288 x h9)
      have va := va_at.kept va (oq _ (hw_lt va))
      have v17 := va_at.kept v17 (oq _ (hw_lt v17))
      have v39 := va_at.kept v39 (oq _ (hw_lt v39))
      have v65 := va_at.kept v65 (oq _ (hw_lt v65))
      have v80 := va_at.kept v80 (oq _ (hw_lt v80))
      have v98 := va_at.kept v98 (oq _ (hw_lt v98))
      have v118 := va_at.kept v118 (oq _ (hw_lt v118))
      have v232 := va_at.kept v232 (oq _ (hw_lt v232))
      have k321 := hw_kg2 m314 k289 (by decide)
      have k322 := hw_kg2 m314 k290 (by decide)
      have k323 := hw_kg m313 k291 (by decide) (by decide)
      have k324 := hw_kg m313 k292 (by decide) (by decide)
      have k325 := hw_kg m313 k293 (by decide) (by decide)
      have k326 := hw_kg2 m314 k294 (by decide)
      have k327 := hw_kg2 m314 k295 (by decide)
      have k328 := hw_kg m313 k296 (by decide) (by decide)
      have k329 := hw_kg m313 k297 (by decide) (by decide)
      have k330 := hw_kg m313 k298 (by decide) (by decide)
      have k331 := hw_kg2 m314 k299 (by decide)
      have R332 := hw_RC_mono m313 R300
      have R333 := hw_RT_mono m313 R301
      have R334 := hw_RS_mono m313 R302
      have q335 := hw_qq m313 q309 (by decide) (by decide)
      have q336 := hw_qq m313 q304 (by decide) (by decide)
      have q337 := hw_qq m313 q305 (by decide) (by decide)
      have q338 := hw_qq m313 q306 (by decide) (by decide)
      refine lv_dup hx hb dX11_init_113 rfl ?_
      have hHo := hH
      have hS0 := hS
      refine hw_cM (va_runIN (As := []) (rest := [.ref q311, .int 1, .ref q73]) ⟨hx, hb, hml, hown, hts⟩ (k_X9_init l D G312 q311 _ k315) ⟨va_cnB 0 hts gX11_init_X9_init_n25 rfl rfl rfl (hw_en25 hST.ex) (hts (.initialized RX9) (by decide +kernel)) (by decide +kernel) ⟨Nat.le_of_ble_eq_true rfl, Nat.le_of_ble_eq_true rfl⟩, rfl, hts (.instanceMethod yX9_init) (by decide +kernel)⟩ (hw_pS hH hK hST hS (by decide) (hw_hG g320) v318) rfl rfl hl.1 rfl (lv_room (Nat.le_of_ble_eq_true rfl)) dX11_init_114 ⟨Nat.le_of_ble_eq_true rfl, Nat.le_of_ble_eq_true rfl⟩) hS (hw_AWsub (by decide) g320 hS.1) (fun v H locs hp hz hk hS => ?_)
      obtain ⟨G339, r342, rfl, hH, i340, k341, R343, v344⟩ := hp
      have va := va_at.kept va (hk _ (hw_lt va) (hw_AWn k322 (by decide) (hw_lt va)))
      have v17 := va_at.kept v17 (hk _ (hw_lt v17) (hw_AWn k323 (by decide) (hw_lt v17)))
      have v39 := va_at.kept v39 (hk _ (hw_lt v39) (hw_AWn k324 (by decide) (hw_lt v39)))
      have v65 := va_at.kept v65 (hk _ (hw_lt v65) (hw_AWn k325 (by decide) (hw_lt v65)))
      have v80 := va_at.kept v80 (hk _ (hw_lt v80) (hw_AWn k321 (by decide) (hw_lt v80)))
      have v98 := va_at.kept v98 (hk _ (hw_lt v98) (hw_AWn k326 (by decide) (hw_lt v98)))
      have v118 := va_at.kept v118 (hk _ (hw_lt v118) (hw_AWn k327 (by decide) (hw_lt v118)))
      have v232 := va_at.kept v232 (hk _ (hw_lt v232) (hw_AWn k331 (by decide) (hw_lt v232)))
      have m345 : ∀ a, G312 a ≠ 0 → G312 a < 100 → G339 a = G312 a := fun a h0 h1 => i340 a (hHo.lt h0) (fun e => by rw [e, k315] at h1; exact absurd h1 (by decide))
      have g346 : ∀ x, x < s.heap.size → G339 x = G x := fun x h9 => (i340 x (Nat.lt_of_lt_of_le h9 hS0.1) (fun e => by have := w319; omega)).trans (g320 x h9)
      have k347 := hw_kg3 i340 hHo k315 k321 (by decide) (by decide)
      have k348 := hw_kg3 i340 hHo k315 k322 (by decide) (by decide)
      have k349 := hw_kg m345 k323 (by decide) (by decide)
      have k350 := hw_kg m345 k324 (by decide) (by decide)
      have k351 := hw_kg m345 k325 (by decide) (by decide)
      have k352 := hw_kg3 i340 hHo k315 k326 (by decide) (by decide)
      have k353 := hw_kg3 i340 hHo k315 k327 (by decide) (by decide)
      have k354 := hw_kg m345 k328 (by decide) (by decide)
      have k355 := hw_kg m345 k329 (by decide) (by decide)
      have k356 := hw_kg m345 k330 (by decide) (by decide)
      have k357 := hw_kg3 i340 hHo k315 k331 (by decide) (by decide)
      have R358 := hw_RC_mono m345 R332
      have R359 := hw_RT_mono m345 R333
      have R360 := hw_RS_mono m345 R334
      have q361 := hw_qq m345 q335 (by decide) (by decide)
      have q362 := hw_qq m345 q336 (by decide) (by decide)
      have q363 := hw_qq m345 q337 (by decide) (by decide)
      have q364 := hw_qq m345 q338 (by decide) (by decide)
      refine hw_aast (t := 5) (ci := 8) (q := (RX9, TX9, 7)) hx hb hK hH v80 rfl v344 rfl (fun comp c0 h1 h2 => by cases h1.symm.trans h2; exact va_asg _ _) (hw_in (x := 1) (by decide) (by decide)) (fun _ => by rw [k347]; exact ⟨_, rfl, hw_upq q361 k341⟩) hS (Or.inr w81) dX11_init_117 (fun H locs hH v80 oq hz hS => ?_)
      have va := va_at.kept va (oq _ (hw_ne k348 k347 (by decide)))
      have v17 := va_at.kept v17 (oq _ (hw_ne k349 k347 (by decide)))
      have v39 := va_at.kept v39 (oq _ (hw_ne k350 k347 (by decide)))
      have v65 := va_at.kept v65 (oq _ (hw_ne k351 k347 (by decide)))
      have v98 := va_at.kept v98 (oq _ (hw_ne k352 k347 (by decide)))
      have v118 := va_at.kept v118 (oq _ (hw_ne k353 k347 (by decide)))
      have v232 := va_at.kept v232 (oq _ (hw_ne k357 k347 (by decide)))
      have v344 := va_at.kept v344 (oq _ (hw_ne k341 k347 (by decide)))
      have q367 : ∀ j b, j < 8 → (va_up (va_up (fun _ => none) (0 : Int32).toNatClampNeg (some q253)) (1 : Int32).toNatClampNeg (some q311)) j = some b → G339 b = 7 := hw_upq q361 k341
      refine lv_iinc (v := 2) (lv' := [(1, .int 2), (0, .ref h0)]) hx hb dX11_init_118 hl (k := 0) rfl (by rfl) (by decide) rfl (fun ls hl => ?_)
      refine lv_goto (tgt := 99) hx hb dX11_init_121 (by decide) ?_
      refine lv_iload_n hx hb dX11_init_99 rfl (lv_at hl 0 rfl) ?_
      refine lv_bipush (v := 8) hx hb dX11_init_100 (by decide) ?_
      refine lv_icmp_ge (tgt := 124) hx hb dX11_init_102 (by decide) (fun c368 => ?_) (fun c368 => ?_)
      · exact absurd c368 (by decide)
      · refine lv_aload_n hx hb dX11_init_105 rfl (lv_at hl 1 rfl) ?_
        refine hw_get hx hb fg_30_10 hK va rfl dX11_init_106 ?_
        refine lv_iload_n hx hb dX11_init_109 rfl (lv_at hl 0 rfl) ?_
        have hS0 := hS
        refine hw_new hx hb 107 (ci := 8) (C := RX9) (T := TX9) (N := 7) hts (by decide +kernel) tyX9 tyX9_ok hown (hts (.classLink RX11 23 RX9) (by decide +kernel)) (hts (.instantiable RX9 7) (by decide +kernel)) (hts (.initialized RX9) (by decide +kernel)) hK hH hS rfl [.int 0, .int 0, .int 0, .null, .null, .null, .null] (fun j hj => by rcases (show j = 0 ∨ j = 1 ∨ j = 2 ∨ j = 3 ∨ j = 4 ∨ j = 5 ∨ j = 6 by omega) with rfl | rfl | rfl | rfl | rfl | rfl | rfl <;> rfl) (show hw_ok D.2.1 G339 107 _ from ⟨_, rfl⟩) (Nat.le_of_ble_eq_true rfl) (Nat.le_of_ble_eq_true rfl) dX11_init_110 (fun q369 G370 H hH m371 m372 k373 l374 e375 v376 oq hz hS => ?_)
        have w377 : s.heap.size ≤ q369 := by have := hS0.1; omega
        have g378 : ∀ x, x < s.heap.size → G370 x = G x := fun x h9 => (l374 x (Nat.lt_of_lt_of_le h9 hS0.1)).trans (g346 x h9)
        have va := va_at.kept va (oq _ (hw_lt va))
        have v17 := va_at.kept v17 (oq _ (hw_lt v17))
        have v39 := va_at.kept v39 (oq _ (hw_lt v39))
        have v65 := va_at.kept v65 (oq _ (hw_lt v65))
        have v80 := va_at.kept v80 (oq _ (hw_lt v80))
        have v98 := va_at.kept v98 (oq _ (hw_lt v98))
        have v118 := va_at.kept v118 (oq _ (hw_lt v118))
        have v232 := va_at.kept v232 (oq _ (hw_lt v232))
        have k379 := hw_kg2 m372 k347 (by decide)
        have k380 := hw_kg2 m372 k348 (by decide)
        have k381 := hw_kg m371 k349 (by decide) (by decide)
        have k382 := hw_kg m371 k350 (by decide) (by decide)
        have k383 := hw_kg m371 k351 (by decide) (by decide)
        have k384 := hw_kg2 m372 k352 (by decide)
        have k385 := hw_kg2 m372 k353 (by decide)
        have k386 := hw_kg m371 k354 (by decide) (by decide)
        have k387 := hw_kg m371 k355 (by decide) (by decide)
        have k388 := hw_kg m371 k356 (by decide) (by decide)
        have k389 := hw_kg2 m372 k357 (by decide)
        have R390 := hw_RC_mono m371 R358
        have R391 := hw_RT_mono m371 R359
        have R392 := hw_RS_mono m371 R360
        have q393 := hw_qq m371 q367 (by decide) (by decide)
        have q394 := hw_qq m371 q362 (by decide) (by decide)
        have q395 := hw_qq m371 q363 (by decide) (by decide)
        have q396 := hw_qq m371 q364 (by decide) (by decide)
        refine lv_dup hx hb dX11_init_113 rfl ?_
        have hHo := hH
        have hS0 := hS
        refine hw_cM (va_runIN (As := []) (rest := [.ref q369, .int 2, .ref q73]) ⟨hx, hb, hml, hown, hts⟩ (k_X9_init l D G370 q369 _ k373) ⟨va_cnB 0 hts gX11_init_X9_init_n25 rfl rfl rfl (hw_en25 hST.ex) (hts (.initialized RX9) (by decide +kernel)) (by decide +kernel) ⟨Nat.le_of_ble_eq_true rfl, Nat.le_of_ble_eq_true rfl⟩, rfl, hts (.instanceMethod yX9_init) (by decide +kernel)⟩ (hw_pS hH hK hST hS (by decide) (hw_hG g378) v376) rfl rfl hl.1 rfl (lv_room (Nat.le_of_ble_eq_true rfl)) dX11_init_114 ⟨Nat.le_of_ble_eq_true rfl, Nat.le_of_ble_eq_true rfl⟩) hS (hw_AWsub (by decide) g378 hS.1) (fun v H locs hp hz hk hS => ?_)
        obtain ⟨G397, r400, rfl, hH, i398, k399, R401, v402⟩ := hp
        have va := va_at.kept va (hk _ (hw_lt va) (hw_AWn k380 (by decide) (hw_lt va)))
        have v17 := va_at.kept v17 (hk _ (hw_lt v17) (hw_AWn k381 (by decide) (hw_lt v17)))
        have v39 := va_at.kept v39 (hk _ (hw_lt v39) (hw_AWn k382 (by decide) (hw_lt v39)))
        have v65 := va_at.kept v65 (hk _ (hw_lt v65) (hw_AWn k383 (by decide) (hw_lt v65)))
        have v80 := va_at.kept v80 (hk _ (hw_lt v80) (hw_AWn k379 (by decide) (hw_lt v80)))
        have v98 := va_at.kept v98 (hk _ (hw_lt v98) (hw_AWn k384 (by decide) (hw_lt v98)))
        have v118 := va_at.kept v118 (hk _ (hw_lt v118) (hw_AWn k385 (by decide) (hw_lt v118)))
        have v232 := va_at.kept v232 (hk _ (hw_lt v232) (hw_AWn k389 (by decide) (hw_lt v232)))
        have m403 : ∀ a, G370 a ≠ 0 → G370 a < 100 → G397 a = G370 a := fun a h0 h1 => i398 a (hHo.lt h0) (fun e => by rw [e, k373] at h1; exact absurd h1 (by decide))
        have g404 : ∀ x, x < s.heap.size → G397 x = G x := fun x h9 => (i398 x (Nat.lt_of_lt_of_le h9 hS0.1) (fun e => by have := w377; omega)).trans (g378 x h9)
        have k405 := hw_kg3 i398 hHo k373 k379 (by decide) (by decide)
        have k406 := hw_kg3 i398 hHo k373 k380 (by decide) (by decide)
        have k407 := hw_kg m403 k381 (by decide) (by decide)
        have k408 := hw_kg m403 k382 (by decide) (by decide)
        have k409 := hw_kg m403 k383 (by decide) (by decide)
        have k410 := hw_kg3 i398 hHo k373 k384 (by decide) (by decide)
        have k411 := hw_kg3 i398 hHo k373 k385 (by decide) (by decide)
        have k412 := hw_kg m403 k386 (by decide) (by decide)
        have k413 := hw_kg m403 k387 (by decide) (by decide)
        have k414 := hw_kg m403 k388 (by decide) (by decide)
        have k415 := hw_kg3 i398 hHo k373 k389 (by decide) (by decide)
        have R416 := hw_RC_mono m403 R390
        have R417 := hw_RT_mono m403 R391
        have R418 := hw_RS_mono m403 R392
        have q419 := hw_qq m403 q393 (by decide) (by decide)
        have q420 := hw_qq m403 q394 (by decide) (by decide)
        have q421 := hw_qq m403 q395 (by decide) (by decide)
        have q422 := hw_qq m403 q396 (by decide) (by decide)
        refine hw_aast (t := 5) (ci := 8) (q := (RX9, TX9, 7)) hx hb hK hH v80 rfl v402 rfl (fun comp c0 h1 h2 => by cases h1.symm.trans h2; exact va_asg _ _) (hw_in (x := 2) (by decide) (by decide)) (fun _ => by rw [k405]; exact ⟨_, rfl, hw_upq q419 k399⟩) hS (Or.inr w81) dX11_init_117 (fun H locs hH v80 oq hz hS => ?_)
        have va := va_at.kept va (oq _ (hw_ne k406 k405 (by decide)))
        have v17 := va_at.kept v17 (oq _ (hw_ne k407 k405 (by decide)))
        have v39 := va_at.kept v39 (oq _ (hw_ne k408 k405 (by decide)))
        have v65 := va_at.kept v65 (oq _ (hw_ne k409 k405 (by decide)))
        have v98 := va_at.kept v98 (oq _ (hw_ne k410 k405 (by decide)))
        have v118 := va_at.kept v118 (oq _ (hw_ne k411 k405 (by decide)))
        have v232 := va_at.kept v232 (oq _ (hw_ne k415 k405 (by decide)))
        have v402 := va_at.kept v402 (oq _ (hw_ne k399 k405 (by decide)))
        have q425 : ∀ j b, j < 8 → (va_up (va_up (va_up (fun _ => none) (0 : Int32).toNatClampNeg (some q253)) (1 : Int32).toNatClampNeg (some q311)) (2 : Int32).toNatClampNeg (some q369)) j = some b → G397 b = 7 := hw_upq q419 k399
        refine lv_iinc (v := 3) (lv' := [(1, .int 3), (0, .ref h0)]) hx hb dX11_init_118 hl (k := 0) rfl (by rfl) (by decide) rfl (fun ls hl => ?_)
        refine lv_goto (tgt := 99) hx hb dX11_init_121 (by decide) ?_
        refine lv_iload_n hx hb dX11_init_99 rfl (lv_at hl 0 rfl) ?_
        refine lv_bipush (v := 8) hx hb dX11_init_100 (by decide) ?_
        refine lv_icmp_ge (tgt := 124) hx hb dX11_init_102 (by decide) (fun c426 => ?_) (fun c426 => ?_)
        · exact absurd c426 (by decide)
        · refine lv_aload_n hx hb dX11_init_105 rfl (lv_at hl 1 rfl) ?_
          refine hw_get hx hb fg_30_10 hK va rfl dX11_init_106 ?_
          refine lv_iload_n hx hb dX11_init_109 rfl (lv_at hl 0 rfl) ?_
          have hS0 := hS
          refine hw_new hx hb 107 (ci := 8) (C := RX9) (T := TX9) (N := 7) hts (by decide +kernel) tyX9 tyX9_ok hown (hts (.classLink RX11 23 RX9) (by decide +kernel)) (hts (.instantiable RX9 7) (by decide +kernel)) (hts (.initialized RX9) (by decide +kernel)) hK hH hS rfl [.int 0, .int 0, .int 0, .null, .null, .null, .null] (fun j hj => by rcases (show j = 0 ∨ j = 1 ∨ j = 2 ∨ j = 3 ∨ j = 4 ∨ j = 5 ∨ j = 6 by omega) with rfl | rfl | rfl | rfl | rfl | rfl | rfl <;> rfl) (show hw_ok D.2.1 G397 107 _ from ⟨_, rfl⟩) (Nat.le_of_ble_eq_true rfl) (Nat.le_of_ble_eq_true rfl) dX11_init_110 (fun q427 G428 H hH m429 m430 k431 l432 e433 v434 oq hz hS => ?_)
          have w435 : s.heap.size ≤ q427 := by have := hS0.1; omega
          have g436 : ∀ x, x < s.heap.size → G428 x = G x := fun x h9 => (l432 x (Nat.lt_of_lt_of_le h9 hS0.1)).trans (g404 x h9)
          have va := va_at.kept va (oq _ (hw_lt va))
          have v17 := va_at.kept v17 (oq _ (hw_lt v17))
          have v39 := va_at.kept v39 (oq _ (hw_lt v39))
          have v65 := va_at.kept v65 (oq _ (hw_lt v65))
          have v80 := va_at.kept v80 (oq _ (hw_lt v80))
          have v98 := va_at.kept v98 (oq _ (hw_lt v98))
          have v118 := va_at.kept v118 (oq _ (hw_lt v118))
          have v232 := va_at.kept v232 (oq _ (hw_lt v232))
          have k437 := hw_kg2 m430 k405 (by decide)
          have k438 := hw_kg2 m430 k406 (by decide)
          have k439 := hw_kg m429 k407 (by decide) (by decide)
          have k440 := hw_kg m429 k408 (by decide) (by decide)
          have k441 := hw_kg m429 k409 (by decide) (by decide)
          have k442 := hw_kg2 m430 k410 (by decide)
          have k443 := hw_kg2 m430 k411 (by decide)
          have k444 := hw_kg m429 k412 (by decide) (by decide)
          have k445 := hw_kg m429 k413 (by decide) (by decide)
          have k446 := hw_kg m429 k414 (by decide) (by decide)
          have k447 := hw_kg2 m430 k415 (by decide)
          have R448 := hw_RC_mono m429 R416
          have R449 := hw_RT_mono m429 R417
          have R450 := hw_RS_mono m429 R418
          have q451 := hw_qq m429 q425 (by decide) (by decide)
          have q452 := hw_qq m429 q420 (by decide) (by decide)
          have q453 := hw_qq m429 q421 (by decide) (by decide)
          have q454 := hw_qq m429 q422 (by decide) (by decide)
          refine lv_dup hx hb dX11_init_113 rfl ?_
          have hHo := hH
          have hS0 := hS
          refine hw_cM (va_runIN (As := []) (rest := [.ref q427, .int 3, .ref q73]) ⟨hx, hb, hml, hown, hts⟩ (k_X9_init l D G428 q427 _ k431) ⟨va_cnB 0 hts gX11_init_X9_init_n25 rfl rfl rfl (hw_en25 hST.ex) (hts (.initialized RX9) (by decide +kernel)) (by decide +kernel) ⟨Nat.le_of_ble_eq_true rfl, Nat.le_of_ble_eq_true rfl⟩, rfl, hts (.instanceMethod yX9_init) (by decide +kernel)⟩ (hw_pS hH hK hST hS (by decide) (hw_hG g436) v434) rfl rfl hl.1 rfl (lv_room (Nat.le_of_ble_eq_true rfl)) dX11_init_114 ⟨Nat.le_of_ble_eq_true rfl, Nat.le_of_ble_eq_true rfl⟩) hS (hw_AWsub (by decide) g436 hS.1) (fun v H locs hp hz hk hS => ?_)
          obtain ⟨G455, r458, rfl, hH, i456, k457, R459, v460⟩ := hp
          have va := va_at.kept va (hk _ (hw_lt va) (hw_AWn k438 (by decide) (hw_lt va)))
          have v17 := va_at.kept v17 (hk _ (hw_lt v17) (hw_AWn k439 (by decide) (hw_lt v17)))
          have v39 := va_at.kept v39 (hk _ (hw_lt v39) (hw_AWn k440 (by decide) (hw_lt v39)))
          have v65 := va_at.kept v65 (hk _ (hw_lt v65) (hw_AWn k441 (by decide) (hw_lt v65)))
          have v80 := va_at.kept v80 (hk _ (hw_lt v80) (hw_AWn k437 (by decide) (hw_lt v80)))
          have v98 := va_at.kept v98 (hk _ (hw_lt v98) (hw_AWn k442 (by decide) (hw_lt v98)))
          have v118 := va_at.kept v118 (hk _ (hw_lt v118) (hw_AWn k443 (by decide) (hw_lt v118)))
          have v232 := va_at.kept v232 (hk _ (hw_lt v232) (hw_AWn k447 (by decide) (hw_lt v232)))
          have m461 : ∀ a, G428 a ≠ 0 → G428 a < 100 → G455 a = G428 a := fun a h0 h1 => i456 a (hHo.lt h0) (fun e => by rw [e, k431] at h1; exact absurd h1 (by decide))
          have g462 : ∀ x, x < s.heap.size → G455 x = G x := fun x h9 => (i456 x (Nat.lt_of_lt_of_le h9 hS0.1) (fun e => by have := w435; omega)).trans (g436 x h9)
          have k463 := hw_kg3 i456 hHo k431 k437 (by decide) (by decide)
          have k464 := hw_kg3 i456 hHo k431 k438 (by decide) (by decide)
          have k465 := hw_kg m461 k439 (by decide) (by decide)
          have k466 := hw_kg m461 k440 (by decide) (by decide)
          have k467 := hw_kg m461 k441 (by decide) (by decide)
          have k468 := hw_kg3 i456 hHo k431 k442 (by decide) (by decide)
          have k469 := hw_kg3 i456 hHo k431 k443 (by decide) (by decide)
          have k470 := hw_kg m461 k444 (by decide) (by decide)
          have k471 := hw_kg m461 k445 (by decide) (by decide)
          have k472 := hw_kg m461 k446 (by decide) (by decide)
          have k473 := hw_kg3 i456 hHo k431 k447 (by decide) (by decide)
          have R474 := hw_RC_mono m461 R448
          have R475 := hw_RT_mono m461 R449
          have R476 := hw_RS_mono m461 R450
          have q477 := hw_qq m461 q451 (by decide) (by decide)
          have q478 := hw_qq m461 q452 (by decide) (by decide)
          have q479 := hw_qq m461 q453 (by decide) (by decide)
          have q480 := hw_qq m461 q454 (by decide) (by decide)
          refine hw_aast (t := 5) (ci := 8) (q := (RX9, TX9, 7)) hx hb hK hH v80 rfl v460 rfl (fun comp c0 h1 h2 => by cases h1.symm.trans h2; exact va_asg _ _) (hw_in (x := 3) (by decide) (by decide)) (fun _ => by rw [k463]; exact ⟨_, rfl, hw_upq q477 k457⟩) hS (Or.inr w81) dX11_init_117 (fun H locs hH v80 oq hz hS => ?_)
          have va := va_at.kept va (oq _ (hw_ne k464 k463 (by decide)))
          have v17 := va_at.kept v17 (oq _ (hw_ne k465 k463 (by decide)))
          have v39 := va_at.kept v39 (oq _ (hw_ne k466 k463 (by decide)))
          have v65 := va_at.kept v65 (oq _ (hw_ne k467 k463 (by decide)))
          have v98 := va_at.kept v98 (oq _ (hw_ne k468 k463 (by decide)))
          have v118 := va_at.kept v118 (oq _ (hw_ne k469 k463 (by decide)))
          have v232 := va_at.kept v232 (oq _ (hw_ne k473 k463 (by decide)))
          have v460 := va_at.kept v460 (oq _ (hw_ne k457 k463 (by decide)))
          have q483 : ∀ j b, j < 8 → (va_up (va_up (va_up (va_up (fun _ => none) (0 : Int32).toNatClampNeg (some q253)) (1 : Int32).toNatClampNeg (some q311)) (2 : Int32).toNatClampNeg (some q369)) (3 : Int32).toNatClampNeg (some q427)) j = some b → G455 b = 7 := hw_upq q477 k457
          refine lv_iinc (v := 4) (lv' := [(1, .int 4), (0, .ref h0)]) hx hb dX11_init_118 hl (k := 0) rfl (by rfl) (by decide) rfl (fun ls hl => ?_)
          refine lv_goto (tgt := 99) hx hb dX11_init_121 (by decide) ?_
          refine lv_iload_n hx hb dX11_init_99 rfl (lv_at hl 0 rfl) ?_
          refine lv_bipush (v := 8) hx hb dX11_init_100 (by decide) ?_
          refine lv_icmp_ge (tgt := 124) hx hb dX11_init_102 (by decide) (fun c484 => ?_) (fun c484 => ?_)
          · exact absurd c484 (by decide)
          · refine lv_aload_n hx hb dX11_init_105 rfl (lv_at hl 1 rfl) ?_
            refine hw_get hx hb fg_30_10 hK va rfl dX11_init_106 ?_
            refine lv_iload_n hx hb dX11_init_109 rfl (lv_at hl 0 rfl) ?_
            have hS0 := hS
            refine hw_new hx hb 107 (ci := 8) (C := RX9) (T := TX9) (N := 7) hts (by decide +kernel) tyX9 tyX9_ok hown (hts (.classLink RX11 23 RX9) (by decide +kernel)) (hts (.instantiable RX9 7) (by decide +kernel)) (hts (.initialized RX9) (by decide +kernel)) hK hH hS rfl [.int 0, .int 0, .int 0, .null, .null, .null, .null] (fun j hj => by rcases (show j = 0 ∨ j = 1 ∨ j = 2 ∨ j = 3 ∨ j = 4 ∨ j = 5 ∨ j = 6 by omega) with rfl | rfl | rfl | rfl | rfl | rfl | rfl <;> rfl) (show hw_ok D.2.1 G455 107 _ from ⟨_, rfl⟩) (Nat.le_of_ble_eq_true rfl) (Nat.le_of_ble_eq_true rfl) dX11_init_110 (fun q485 G486 H hH m487 m488 k489 l490 e491 v492 oq hz hS => ?_)
            have w493 : s.heap.size ≤ q485 := by have := hS0.1; omega
            have g494 : ∀ x, x < s.heap.size → G486 x = G x := fun x h9 => (l490 x (Nat.lt_of_lt_of_le h9 hS0.1)).trans (g462 x h9)
            have va := va_at.kept va (oq _ (hw_lt va))
            have v17 := va_at.kept v17 (oq _ (hw_lt v17))
            have v39 := va_at.kept v39 (oq _ (hw_lt v39))
            have v65 := va_at.kept v65 (oq _ (hw_lt v65))
            have v80 := va_at.kept v80 (oq _ (hw_lt v80))
            have v98 := va_at.kept v98 (oq _ (hw_lt v98))
            have v118 := va_at.kept v118 (oq _ (hw_lt v118))
            have v232 := va_at.kept v232 (oq _ (hw_lt v232))
            have k495 := hw_kg2 m488 k463 (by decide)
            have k496 := hw_kg2 m488 k464 (by decide)
            have k497 := hw_kg m487 k465 (by decide) (by decide)
            have k498 := hw_kg m487 k466 (by decide) (by decide)
            have k499 := hw_kg m487 k467 (by decide) (by decide)
            have k500 := hw_kg2 m488 k468 (by decide)
            have k501 := hw_kg2 m488 k469 (by decide)
            have k502 := hw_kg m487 k470 (by decide) (by decide)
            have k503 := hw_kg m487 k471 (by decide) (by decide)
            have k504 := hw_kg m487 k472 (by decide) (by decide)
            have k505 := hw_kg2 m488 k473 (by decide)
            have R506 := hw_RC_mono m487 R474
            have R507 := hw_RT_mono m487 R475
            have R508 := hw_RS_mono m487 R476
            have q509 := hw_qq m487 q483 (by decide) (by decide)
            have q510 := hw_qq m487 q478 (by decide) (by decide)
            have q511 := hw_qq m487 q479 (by decide) (by decide)
            have q512 := hw_qq m487 q480 (by decide) (by decide)
            refine lv_dup hx hb dX11_init_113 rfl ?_
            have hHo := hH
            have hS0 := hS
            refine hw_cM (va_runIN (As := []) (rest := [.ref q485, .int 4, .ref q73]) ⟨hx, hb, hml, hown, hts⟩ (k_X9_init l D G486 q485 _ k489) ⟨va_cnB 0 hts gX11_init_X9_init_n25 rfl rfl rfl (hw_en25 hST.ex) (hts (.initialized RX9) (by decide +kernel)) (by decide +kernel) ⟨Nat.le_of_ble_eq_true rfl, Nat.le_of_ble_eq_true rfl⟩, rfl, hts (.instanceMethod yX9_init) (by decide +kernel)⟩ (hw_pS hH hK hST hS (by decide) (hw_hG g494) v492) rfl rfl hl.1 rfl (lv_room (Nat.le_of_ble_eq_true rfl)) dX11_init_114 ⟨Nat.le_of_ble_eq_true rfl, Nat.le_of_ble_eq_true rfl⟩) hS (hw_AWsub (by decide) g494 hS.1) (fun v H locs hp hz hk hS => ?_)
            obtain ⟨G513, r516, rfl, hH, i514, k515, R517, v518⟩ := hp
            have va := va_at.kept va (hk _ (hw_lt va) (hw_AWn k496 (by decide) (hw_lt va)))
            have v17 := va_at.kept v17 (hk _ (hw_lt v17) (hw_AWn k497 (by decide) (hw_lt v17)))
            have v39 := va_at.kept v39 (hk _ (hw_lt v39) (hw_AWn k498 (by decide) (hw_lt v39)))
            have v65 := va_at.kept v65 (hk _ (hw_lt v65) (hw_AWn k499 (by decide) (hw_lt v65)))
            have v80 := va_at.kept v80 (hk _ (hw_lt v80) (hw_AWn k495 (by decide) (hw_lt v80)))
            have v98 := va_at.kept v98 (hk _ (hw_lt v98) (hw_AWn k500 (by decide) (hw_lt v98)))
            have v118 := va_at.kept v118 (hk _ (hw_lt v118) (hw_AWn k501 (by decide) (hw_lt v118)))
            have v232 := va_at.kept v232 (hk _ (hw_lt v232) (hw_AWn k505 (by decide) (hw_lt v232)))
            have m519 : ∀ a, G486 a ≠ 0 → G486 a < 100 → G513 a = G486 a := fun a h0 h1 => i514 a (hHo.lt h0) (fun e => by rw [e, k489] at h1; exact absurd h1 (by decide))
            have g520 : ∀ x, x < s.heap.size → G513 x = G x := fun x h9 => (i514 x (Nat.lt_of_lt_of_le h9 hS0.1) (fun e => by have := w493; omega)).trans (g494 x h9)
            have k521 := hw_kg3 i514 hHo k489 k495 (by decide) (by decide)
            have k522 := hw_kg3 i514 hHo k489 k496 (by decide) (by decide)
            have k523 := hw_kg m519 k497 (by decide) (by decide)
            have k524 := hw_kg m519 k498 (by decide) (by decide)
            have k525 := hw_kg m519 k499 (by decide) (by decide)
            have k526 := hw_kg3 i514 hHo k489 k500 (by decide) (by decide)
            have k527 := hw_kg3 i514 hHo k489 k501 (by decide) (by decide)
            have k528 := hw_kg m519 k502 (by decide) (by decide)
            have k529 := hw_kg m519 k503 (by decide) (by decide)
            have k530 := hw_kg m519 k504 (by decide) (by decide)
            have k531 := hw_kg3 i514 hHo k489 k505 (by decide) (by decide)
            have R532 := hw_RC_mono m519 R506
            have R533 := hw_RT_mono m519 R507
            have R534 := hw_RS_mono m519 R508
            have q535 := hw_qq m519 q509 (by decide) (by decide)
            have q536 := hw_qq m519 q510 (by decide) (by decide)
            have q537 := hw_qq m519 q511 (by decide) (by decide)
            have q538 := hw_qq m519 q512 (by decide) (by decide)
            refine hw_aast (t := 5) (ci := 8) (q := (RX9, TX9, 7)) hx hb hK hH v80 rfl v518 rfl (fun comp c0 h1 h2 => by cases h1.symm.trans h2; exact va_asg _ _) (hw_in (x := 4) (by decide) (by decide)) (fun _ => by rw [k521]; exact ⟨_, rfl, hw_upq q535 k515⟩) hS (Or.inr w81) dX11_init_117 (fun H locs hH v80 oq hz hS => ?_)
            have va := va_at.kept va (oq _ (hw_ne k522 k521 (by decide)))
            have v17 := va_at.kept v17 (oq _ (hw_ne k523 k521 (by decide)))
            have v39 := va_at.kept v39 (oq _ (hw_ne k524 k521 (by decide)))
            have v65 := va_at.kept v65 (oq _ (hw_ne k525 k521 (by decide)))
            have v98 := va_at.kept v98 (oq _ (hw_ne k526 k521 (by decide)))
            have v118 := va_at.kept v118 (oq _ (hw_ne k527 k521 (by decide)))
            have v232 := va_at.kept v232 (oq _ (hw_ne k531 k521 (by decide)))
            have v518 := va_at.kept v518 (oq _ (hw_ne k515 k521 (by decide)))
            have q541 : ∀ j b, j < 8 → (va_up (va_up (va_up (va_up (va_up (fun _ => none) (0 : Int32).toNatClampNeg (some q253)) (1 : Int32).toNatClampNeg (some q311)) (2 : Int32).toNatClampNeg (some q369)) (3 : Int32).toNatClampNeg (some q427)) (4 : Int32).toNatClampNeg (some q485)) j = some b → G513 b = 7 := hw_upq q535 k515
            refine lv_iinc (v := 5) (lv' := [(1, .int 5), (0, .ref h0)]) hx hb dX11_init_118 hl (k := 0) rfl (by rfl) (by decide) rfl (fun ls hl => ?_)
            refine lv_goto (tgt := 99) hx hb dX11_init_121 (by decide) ?_
            refine lv_iload_n hx hb dX11_init_99 rfl (lv_at hl 0 rfl) ?_
            refine lv_bipush (v := 8) hx hb dX11_init_100 (by decide) ?_
            refine lv_icmp_ge (tgt := 124) hx hb dX11_init_102 (by decide) (fun c542 => ?_) (fun c542 => ?_)
            · exact absurd c542 (by decide)
            · refine lv_aload_n hx hb dX11_init_105 rfl (lv_at hl 1 rfl) ?_
              refine hw_get hx hb fg_30_10 hK va rfl dX11_init_106 ?_
              refine lv_iload_n hx hb dX11_init_109 rfl (lv_at hl 0 rfl) ?_
              have hS0 := hS
              refine hw_new hx hb 107 (ci := 8) (C := RX9) (T := TX9) (N := 7) hts (by decide +kernel) tyX9 tyX9_ok hown (hts (.classLink RX11 23 RX9) (by decide +kernel)) (hts (.instantiable RX9 7) (by decide +kernel)) (hts (.initialized RX9) (by decide +kernel)) hK hH hS rfl [.int 0, .int 0, .int 0, .null, .null, .null, .null] (fun j hj => by rcases (show j = 0 ∨ j = 1 ∨ j = 2 ∨ j = 3 ∨ j = 4 ∨ j = 5 ∨ j = 6 by omega) with rfl | rfl | rfl | rfl | rfl | rfl | rfl <;> rfl) (show hw_ok D.2.1 G513 107 _ from ⟨_, rfl⟩) (Nat.le_of_ble_eq_true rfl) (Nat.le_of_ble_eq_true rfl) dX11_init_110 (fun q543 G544 H hH m545 m546 k547 l548 e549 v550 oq hz hS => ?_)
              have w551 : s.heap.size ≤ q543 := by have := hS0.1; omega
              have g552 : ∀ x, x < s.heap.size → G544 x = G x := fun x h9 => (l548 x (Nat.lt_of_lt_of_le h9 hS0.1)).trans (g520 x h9)
              have va := va_at.kept va (oq _ (hw_lt va))
              have v17 := va_at.kept v17 (oq _ (hw_lt v17))
              have v39 := va_at.kept v39 (oq _ (hw_lt v39))
              have v65 := va_at.kept v65 (oq _ (hw_lt v65))
              have v80 := va_at.kept v80 (oq _ (hw_lt v80))
              have v98 := va_at.kept v98 (oq _ (hw_lt v98))
              have v118 := va_at.kept v118 (oq _ (hw_lt v118))
              have v232 := va_at.kept v232 (oq _ (hw_lt v232))
              have k553 := hw_kg2 m546 k521 (by decide)
              have k554 := hw_kg2 m546 k522 (by decide)
              have k555 := hw_kg m545 k523 (by decide) (by decide)
              have k556 := hw_kg m545 k524 (by decide) (by decide)
              have k557 := hw_kg m545 k525 (by decide) (by decide)
              have k558 := hw_kg2 m546 k526 (by decide)
              have k559 := hw_kg2 m546 k527 (by decide)
              have k560 := hw_kg m545 k528 (by decide) (by decide)
              have k561 := hw_kg m545 k529 (by decide) (by decide)
              have k562 := hw_kg m545 k530 (by decide) (by decide)
              have k563 := hw_kg2 m546 k531 (by decide)
              have R564 := hw_RC_mono m545 R532
              have R565 := hw_RT_mono m545 R533
              have R566 := hw_RS_mono m545 R534
              have q567 := hw_qq m545 q541 (by decide) (by decide)
              have q568 := hw_qq m545 q536 (by decide) (by decide)
              have q569 := hw_qq m545 q537 (by decide) (by decide)
              have q570 := hw_qq m545 q538 (by decide) (by decide)
              refine lv_dup hx hb dX11_init_113 rfl ?_
              have hHo := hH
              have hS0 := hS
              refine hw_cM (va_runIN (As := []) (rest := [.ref q543, .int 5, .ref q73]) ⟨hx, hb, hml, hown, hts⟩ (k_X9_init l D G544 q543 _ k547) ⟨va_cnB 0 hts gX11_init_X9_init_n25 rfl rfl rfl (hw_en25 hST.ex) (hts (.initialized RX9) (by decide +kernel)) (by decide +kernel) ⟨Nat.le_of_ble_eq_true rfl, Nat.le_of_ble_eq_true rfl⟩, rfl, hts (.instanceMethod yX9_init) (by decide +kernel)⟩ (hw_pS hH hK hST hS (by decide) (hw_hG g552) v550) rfl rfl hl.1 rfl (lv_room (Nat.le_of_ble_eq_true rfl)) dX11_init_114 ⟨Nat.le_of_ble_eq_true rfl, Nat.le_of_ble_eq_true rfl⟩) hS (hw_AWsub (by decide) g552 hS.1) (fun v H locs hp hz hk hS => ?_)
              obtain ⟨G571, r574, rfl, hH, i572, k573, R575, v576⟩ := hp
              have va := va_at.kept va (hk _ (hw_lt va) (hw_AWn k554 (by decide) (hw_lt va)))
              have v17 := va_at.kept v17 (hk _ (hw_lt v17) (hw_AWn k555 (by decide) (hw_lt v17)))
              have v39 := va_at.kept v39 (hk _ (hw_lt v39) (hw_AWn k556 (by decide) (hw_lt v39)))
              have v65 := va_at.kept v65 (hk _ (hw_lt v65) (hw_AWn k557 (by decide) (hw_lt v65)))
              have v80 := va_at.kept v80 (hk _ (hw_lt v80) (hw_AWn k553 (by decide) (hw_lt v80)))
              have v98 := va_at.kept v98 (hk _ (hw_lt v98) (hw_AWn k558 (by decide) (hw_lt v98)))
              have v118 := va_at.kept v118 (hk _ (hw_lt v118) (hw_AWn k559 (by decide) (hw_lt v118)))
              have v232 := va_at.kept v232 (hk _ (hw_lt v232) (hw_AWn k563 (by decide) (hw_lt v232)))
              have m577 : ∀ a, G544 a ≠ 0 → G544 a < 100 → G571 a = G544 a := fun a h0 h1 => i572 a (hHo.lt h0) (fun e => by rw [e, k547] at h1; exact absurd h1 (by decide))
              have g578 : ∀ x, x < s.heap.size → G571 x = G x := fun x h9 => (i572 x (Nat.lt_of_lt_of_le h9 hS0.1) (fun e => by have := w551; omega)).trans (g552 x h9)
              have k579 := hw_kg3 i572 hHo k547 k553 (by decide) (by decide)
              have k580 := hw_kg3 i572 hHo k547 k554 (by decide) (by decide)
              have k581 := hw_kg m577 k555 (by decide) (by decide)
              have k582 := hw_kg m577 k556 (by decide) (by decide)
              have k583 := hw_kg m577 k557 (by decide) (by decide)
              have k584 := hw_kg3 i572 hHo k547 k558 (by decide) (by decide)
              have k585 := hw_kg3 i572 hHo k547 k559 (by decide) (by decide)
              have k586 := hw_kg m577 k560 (by decide) (by decide)
              have k587 := hw_kg m577 k561 (by decide) (by decide)
              have k588 := hw_kg m577 k562 (by decide) (by decide)
              have k589 := hw_kg3 i572 hHo k547 k563 (by decide) (by decide)
              have R590 := hw_RC_mono m577 R564
              have R591 := hw_RT_mono m577 R565
              have R592 := hw_RS_mono m577 R566
              have q593 := hw_qq m577 q567 (by decide) (by decide)
              have q594 := hw_qq m577 q568 (by decide) (by decide)
              have q595 := hw_qq m577 q569 (by decide) (by decide)
              have q596 := hw_qq m577 q570 (by decide) (by decide)
              refine hw_aast (t := 5) (ci := 8) (q := (RX9, TX9, 7)) hx hb hK hH v80 rfl v576 rfl (fun comp c0 h1 h2 => by cases h1.symm.trans h2; exact va_asg _ _) (hw_in (x := 5) (by decide) (by decide)) (fun _ => by rw [k579]; exact ⟨_, rfl, hw_upq q593 k573⟩) hS (Or.inr w81) dX11_init_117 (fun H locs hH v80 oq hz hS => ?_)
              have va := va_at.kept va (oq _ (hw_ne k580 k579 (by decide)))
              have v17 := va_at.kept v17 (oq _ (hw_ne k581 k579 (by decide)))
              have v39 := va_at.kept v39 (oq _ (hw_ne k582 k579 (by decide)))
              have v65 := va_at.kept v65 (oq _ (hw_ne k583 k579 (by decide)))
              have v98 := va_at.kept v98 (oq _ (hw_ne k584 k579 (by decide)))
              have v118 := va_at.kept v118 (oq _ (hw_ne k585 k579 (by decide)))
              have v232 := va_at.kept v232 (oq _ (hw_ne k589 k579 (by decide)))
              have v576 := va_at.kept v576 (oq _ (hw_ne k573 k579 (by decide)))
              have q599 : ∀ j b, j < 8 → (va_up (va_up (va_up (va_up (va_up (va_up (fun _ => none) (0 : Int32).toNatClampNeg (some q253)) (1 : Int32).toNatClampNeg (some q311)) (2 : Int32).toNatClampNeg (some q369)) (3 : Int32).toNatClampNeg (some q427)) (4 : Int32).toNatClampNeg (some q485)) (5 : Int32).toNatClampNeg (some q543)) j = some b → G571 b = 7 := hw_upq q593 k573
              refine lv_iinc (v := 6) (lv' := [(1, .int 6), (0, .ref h0)]) hx hb dX11_init_118 hl (k := 0) rfl (by rfl) (by decide) rfl (fun ls hl => ?_)
              refine lv_goto (tgt := 99) hx hb dX11_init_121 (by decide) ?_
              refine lv_iload_n hx hb dX11_init_99 rfl (lv_at hl 0 rfl) ?_
              refine lv_bipush (v := 8) hx hb dX11_init_100 (by decide) ?_
              refine lv_icmp_ge (tgt := 124) hx hb dX11_init_102 (by decide) (fun c600 => ?_) (fun c600 => ?_)
              · exact absurd c600 (by decide)
              · refine lv_aload_n hx hb dX11_init_105 rfl (lv_at hl 1 rfl) ?_
                refine hw_get hx hb fg_30_10 hK va rfl dX11_init_106 ?_
                refine lv_iload_n hx hb dX11_init_109 rfl (lv_at hl 0 rfl) ?_
                have hS0 := hS
                refine hw_new hx hb 107 (ci := 8) (C := RX9) (T := TX9) (N := 7) hts (by decide +kernel) tyX9 tyX9_ok hown (hts (.classLink RX11 23 RX9) (by decide +kernel)) (hts (.instantiable RX9 7) (by decide +kernel)) (hts (.initialized RX9) (by decide +kernel)) hK hH hS rfl [.int 0, .int 0, .int 0, .null, .null, .null, .null] (fun j hj => by rcases (show j = 0 ∨ j = 1 ∨ j = 2 ∨ j = 3 ∨ j = 4 ∨ j = 5 ∨ j = 6 by omega) with rfl | rfl | rfl | rfl | rfl | rfl | rfl <;> rfl) (show hw_ok D.2.1 G571 107 _ from ⟨_, rfl⟩) (Nat.le_of_ble_eq_true rfl) (Nat.le_of_ble_eq_true rfl) dX11_init_110 (fun q601 G602 H hH m603 m604 k605 l606 e607 v608 oq hz hS => ?_)
                have w609 : s.heap.size ≤ q601 := by have := hS0.1; omega
                have g610 : ∀ x, x < s.heap.size → G602 x = G x := fun x h9 => (l606 x (Nat.lt_of_lt_of_le h9 hS0.1)).trans (g578 x h9)
                have va := va_at.kept va (oq _ (hw_lt va))
                have v17 := va_at.kept v17 (oq _ (hw_lt v17))
                have v39 := va_at.kept v39 (oq _ (hw_lt v39))
                have v65 := va_at.kept v65 (oq _ (hw_lt v65))
                have v80 := va_at.kept v80 (oq _ (hw_lt v80))
                have v98 := va_at.kept v98 (oq _ (hw_lt v98))
                have v118 := va_at.kept v118 (oq _ (hw_lt v118))
                have v232 := va_at.kept v232 (oq _ (hw_lt v232))
                have k611 := hw_kg2 m604 k579 (by decide)
                have k612 := hw_kg2 m604 k580 (by decide)
                have k613 := hw_kg m603 k581 (by decide) (by decide)
                have k614 := hw_kg m603 k582 (by decide) (by decide)
                have k615 := hw_kg m603 k583 (by decide) (by decide)
                have k616 := hw_kg2 m604 k584 (by decide)
                have k617 := hw_kg2 m604 k585 (by decide)
                have k618 := hw_kg m603 k586 (by decide) (by decide)
                have k619 := hw_kg m603 k587 (by decide) (by decide)
                have k620 := hw_kg m603 k588 (by decide) (by decide)
                have k621 := hw_kg2 m604 k589 (by decide)
                have R622 := hw_RC_mono m603 R590
                have R623 := hw_RT_mono m603 R591
                have R624 := hw_RS_mono m603 R592
                have q625 := hw_qq m603 q599 (by decide) (by decide)
                have q626 := hw_qq m603 q594 (by decide) (by decide)
                have q627 := hw_qq m603 q595 (by decide) (by decide)
                have q628 := hw_qq m603 q596 (by decide) (by decide)
                refine lv_dup hx hb dX11_init_113 rfl ?_
                have hHo := hH
                have hS0 := hS
                refine hw_cM (va_runIN (As := []) (rest := [.ref q601, .int 6, .ref q73]) ⟨hx, hb, hml, hown, hts⟩ (k_X9_init l D G602 q601 _ k605) ⟨va_cnB 0 hts gX11_init_X9_init_n25 rfl rfl rfl (hw_en25 hST.ex) (hts (.initialized RX9) (by decide +kernel)) (by decide +kernel) ⟨Nat.le_of_ble_eq_true rfl, Nat.le_of_ble_eq_true rfl⟩, rfl, hts (.instanceMethod yX9_init) (by decide +kernel)⟩ (hw_pS hH hK hST hS (by decide) (hw_hG g610) v608) rfl rfl hl.1 rfl (lv_room (Nat.le_of_ble_eq_true rfl)) dX11_init_114 ⟨Nat.le_of_ble_eq_true rfl, Nat.le_of_ble_eq_true rfl⟩) hS (hw_AWsub (by decide) g610 hS.1) (fun v H locs hp hz hk hS => ?_)
                obtain ⟨G629, r632, rfl, hH, i630, k631, R633, v634⟩ := hp
                have va := va_at.kept va (hk _ (hw_lt va) (hw_AWn k612 (by decide) (hw_lt va)))
                have v17 := va_at.kept v17 (hk _ (hw_lt v17) (hw_AWn k613 (by decide) (hw_lt v17)))
                have v39 := va_at.kept v39 (hk _ (hw_lt v39) (hw_AWn k614 (by decide) (hw_lt v39)))
                have v65 := va_at.kept v65 (hk _ (hw_lt v65) (hw_AWn k615 (by decide) (hw_lt v65)))
                have v80 := va_at.kept v80 (hk _ (hw_lt v80) (hw_AWn k611 (by decide) (hw_lt v80)))
                have v98 := va_at.kept v98 (hk _ (hw_lt v98) (hw_AWn k616 (by decide) (hw_lt v98)))
                have v118 := va_at.kept v118 (hk _ (hw_lt v118) (hw_AWn k617 (by decide) (hw_lt v118)))
                have v232 := va_at.kept v232 (hk _ (hw_lt v232) (hw_AWn k621 (by decide) (hw_lt v232)))
                have m635 : ∀ a, G602 a ≠ 0 → G602 a < 100 → G629 a = G602 a := fun a h0 h1 => i630 a (hHo.lt h0) (fun e => by rw [e, k605] at h1; exact absurd h1 (by decide))
                have g636 : ∀ x, x < s.heap.size → G629 x = G x := fun x h9 => (i630 x (Nat.lt_of_lt_of_le h9 hS0.1) (fun e => by have := w609; omega)).trans (g610 x h9)
                have k637 := hw_kg3 i630 hHo k605 k611 (by decide) (by decide)
                have k638 := hw_kg3 i630 hHo k605 k612 (by decide) (by decide)
                have k639 := hw_kg m635 k613 (by decide) (by decide)
                have k640 := hw_kg m635 k614 (by decide) (by decide)
                have k641 := hw_kg m635 k615 (by decide) (by decide)
                have k642 := hw_kg3 i630 hHo k605 k616 (by decide) (by decide)
                have k643 := hw_kg3 i630 hHo k605 k617 (by decide) (by decide)
                have k644 := hw_kg m635 k618 (by decide) (by decide)
                have k645 := hw_kg m635 k619 (by decide) (by decide)
                have k646 := hw_kg m635 k620 (by decide) (by decide)
                have k647 := hw_kg3 i630 hHo k605 k621 (by decide) (by decide)
                have R648 := hw_RC_mono m635 R622
                have R649 := hw_RT_mono m635 R623
                have R650 := hw_RS_mono m635 R624
                have q651 := hw_qq m635 q625 (by decide) (by decide)
                have q652 := hw_qq m635 q626 (by decide) (by decide)
                have q653 := hw_qq m635 q627 (by decide) (by decide)
                have q654 := hw_qq m635 q628 (by decide) (by decide)
                refine hw_aast (t := 5) (ci := 8) (q := (RX9, TX9, 7)) hx hb hK hH v80 rfl v634 rfl (fun comp c0 h1 h2 => by cases h1.symm.trans h2; exact va_asg _ _) (hw_in (x := 6) (by decide) (by decide)) (fun _ => by rw [k637]; exact ⟨_, rfl, hw_upq q651 k631⟩) hS (Or.inr w81) dX11_init_117 (fun H locs hH v80 oq hz hS => ?_)
                have va := va_at.kept va (oq _ (hw_ne k638 k637 (by decide)))
                have v17 := va_at.kept v17 (oq _ (hw_ne k639 k637 (by decide)))
                have v39 := va_at.kept v39 (oq _ (hw_ne k640 k637 (by decide)))
                have v65 := va_at.kept v65 (oq _ (hw_ne k641 k637 (by decide)))
                have v98 := va_at.kept v98 (oq _ (hw_ne k642 k637 (by decide)))
                have v118 := va_at.kept v118 (oq _ (hw_ne k643 k637 (by decide)))
                have v232 := va_at.kept v232 (oq _ (hw_ne k647 k637 (by decide)))
                have v634 := va_at.kept v634 (oq _ (hw_ne k631 k637 (by decide)))
                have q657 : ∀ j b, j < 8 → (va_up (va_up (va_up (va_up (va_up (va_up (va_up (fun _ => none) (0 : Int32).toNatClampNeg (some q253)) (1 : Int32).toNatClampNeg (some q311)) (2 : Int32).toNatClampNeg (some q369)) (3 : Int32).toNatClampNeg (some q427)) (4 : Int32).toNatClampNeg (some q485)) (5 : Int32).toNatClampNeg (some q543)) (6 : Int32).toNatClampNeg (some q601)) j = some b → G629 b = 7 := hw_upq q651 k631
                refine lv_iinc (v := 7) (lv' := [(1, .int 7), (0, .ref h0)]) hx hb dX11_init_118 hl (k := 0) rfl (by rfl) (by decide) rfl (fun ls hl => ?_)
                refine lv_goto (tgt := 99) hx hb dX11_init_121 (by decide) ?_
                refine lv_iload_n hx hb dX11_init_99 rfl (lv_at hl 0 rfl) ?_
                refine lv_bipush (v := 8) hx hb dX11_init_100 (by decide) ?_
                refine lv_icmp_ge (tgt := 124) hx hb dX11_init_102 (by decide) (fun c658 => ?_) (fun c658 => ?_)
                · exact absurd c658 (by decide)
                · refine lv_aload_n hx hb dX11_init_105 rfl (lv_at hl 1 rfl) ?_
                  refine hw_get hx hb fg_30_10 hK va rfl dX11_init_106 ?_
                  refine lv_iload_n hx hb dX11_init_109 rfl (lv_at hl 0 rfl) ?_
                  have hS0 := hS
                  refine hw_new hx hb 107 (ci := 8) (C := RX9) (T := TX9) (N := 7) hts (by decide +kernel) tyX9 tyX9_ok hown (hts (.classLink RX11 23 RX9) (by decide +kernel)) (hts (.instantiable RX9 7) (by decide +kernel)) (hts (.initialized RX9) (by decide +kernel)) hK hH hS rfl [.int 0, .int 0, .int 0, .null, .null, .null, .null] (fun j hj => by rcases (show j = 0 ∨ j = 1 ∨ j = 2 ∨ j = 3 ∨ j = 4 ∨ j = 5 ∨ j = 6 by omega) with rfl | rfl | rfl | rfl | rfl | rfl | rfl <;> rfl) (show hw_ok D.2.1 G629 107 _ from ⟨_, rfl⟩) (Nat.le_of_ble_eq_true rfl) (Nat.le_of_ble_eq_true rfl) dX11_init_110 (fun q659 G660 H hH m661 m662 k663 l664 e665 v666 oq hz hS => ?_)
                  have w667 : s.heap.size ≤ q659 := by have := hS0.1; omega
                  have g668 : ∀ x, x < s.heap.size → G660 x = G x := fun x h9 => (l664 x (Nat.lt_of_lt_of_le h9 hS0.1)).trans (g636 x h9)
                  have va := va_at.kept va (oq _ (hw_lt va))
                  have v17 := va_at.kept v17 (oq _ (hw_lt v17))
                  have v39 := va_at.kept v39 (oq _ (hw_lt v39))
                  have v65 := va_at.kept v65 (oq _ (hw_lt v65))
                  have v80 := va_at.kept v80 (oq _ (hw_lt v80))
                  have v98 := va_at.kept v98 (oq _ (hw_lt v98))
                  have v118 := va_at.kept v118 (oq _ (hw_lt v118))
                  have v232 := va_at.kept v232 (oq _ (hw_lt v232))
                  have k669 := hw_kg2 m662 k637 (by decide)
                  have k670 := hw_kg2 m662 k638 (by decide)
                  have k671 := hw_kg m661 k639 (by decide) (by decide)
                  have k672 := hw_kg m661 k640 (by decide) (by decide)
                  have k673 := hw_kg m661 k641 (by decide) (by decide)
                  have k674 := hw_kg2 m662 k642 (by decide)
                  have k675 := hw_kg2 m662 k643 (by decide)
                  have k676 := hw_kg m661 k644 (by decide) (by decide)
                  have k677 := hw_kg m661 k645 (by decide) (by decide)
                  have k678 := hw_kg m661 k646 (by decide) (by decide)
                  have k679 := hw_kg2 m662 k647 (by decide)
                  have R680 := hw_RC_mono m661 R648
                  have R681 := hw_RT_mono m661 R649
                  have R682 := hw_RS_mono m661 R650
                  have q683 := hw_qq m661 q657 (by decide) (by decide)
                  have q684 := hw_qq m661 q652 (by decide) (by decide)
                  have q685 := hw_qq m661 q653 (by decide) (by decide)
                  have q686 := hw_qq m661 q654 (by decide) (by decide)
                  refine lv_dup hx hb dX11_init_113 rfl ?_
                  have hHo := hH
                  have hS0 := hS
                  refine hw_cM (va_runIN (As := []) (rest := [.ref q659, .int 7, .ref q73]) ⟨hx, hb, hml, hown, hts⟩ (k_X9_init l D G660 q659 _ k663) ⟨va_cnB 0 hts gX11_init_X9_init_n25 rfl rfl rfl (hw_en25 hST.ex) (hts (.initialized RX9) (by decide +kernel)) (by decide +kernel) ⟨Nat.le_of_ble_eq_true rfl, Nat.le_of_ble_eq_true rfl⟩, rfl, hts (.instanceMethod yX9_init) (by decide +kernel)⟩ (hw_pS hH hK hST hS (by decide) (hw_hG g668) v666) rfl rfl hl.1 rfl (lv_room (Nat.le_of_ble_eq_true rfl)) dX11_init_114 ⟨Nat.le_of_ble_eq_true rfl, Nat.le_of_ble_eq_true rfl⟩) hS (hw_AWsub (by decide) g668 hS.1) (fun v H locs hp hz hk hS => ?_)
                  obtain ⟨G687, r690, rfl, hH, i688, k689, R691, v692⟩ := hp
                  have va := va_at.kept va (hk _ (hw_lt va) (hw_AWn k670 (by decide) (hw_lt va)))
                  have v17 := va_at.kept v17 (hk _ (hw_lt v17) (hw_AWn k671 (by decide) (hw_lt v17)))
                  have v39 := va_at.kept v39 (hk _ (hw_lt v39) (hw_AWn k672 (by decide) (hw_lt v39)))
                  have v65 := va_at.kept v65 (hk _ (hw_lt v65) (hw_AWn k673 (by decide) (hw_lt v65)))
                  have v80 := va_at.kept v80 (hk _ (hw_lt v80) (hw_AWn k669 (by decide) (hw_lt v80)))
                  have v98 := va_at.kept v98 (hk _ (hw_lt v98) (hw_AWn k674 (by decide) (hw_lt v98)))
                  have v118 := va_at.kept v118 (hk _ (hw_lt v118) (hw_AWn k675 (by decide) (hw_lt v118)))
                  have v232 := va_at.kept v232 (hk _ (hw_lt v232) (hw_AWn k679 (by decide) (hw_lt v232)))
                  have m693 : ∀ a, G660 a ≠ 0 → G660 a < 100 → G687 a = G660 a := fun a h0 h1 => i688 a (hHo.lt h0) (fun e => by rw [e, k663] at h1; exact absurd h1 (by decide))
                  have g694 : ∀ x, x < s.heap.size → G687 x = G x := fun x h9 => (i688 x (Nat.lt_of_lt_of_le h9 hS0.1) (fun e => by have := w667; omega)).trans (g668 x h9)
                  have k695 := hw_kg3 i688 hHo k663 k669 (by decide) (by decide)
                  have k696 := hw_kg3 i688 hHo k663 k670 (by decide) (by decide)
                  have k697 := hw_kg m693 k671 (by decide) (by decide)
                  have k698 := hw_kg m693 k672 (by decide) (by decide)
                  have k699 := hw_kg m693 k673 (by decide) (by decide)
                  have k700 := hw_kg3 i688 hHo k663 k674 (by decide) (by decide)
                  have k701 := hw_kg3 i688 hHo k663 k675 (by decide) (by decide)
                  have k702 := hw_kg m693 k676 (by decide) (by decide)
                  have k703 := hw_kg m693 k677 (by decide) (by decide)
                  have k704 := hw_kg m693 k678 (by decide) (by decide)
                  have k705 := hw_kg3 i688 hHo k663 k679 (by decide) (by decide)
                  have R706 := hw_RC_mono m693 R680
                  have R707 := hw_RT_mono m693 R681
                  have R708 := hw_RS_mono m693 R682
                  have q709 := hw_qq m693 q683 (by decide) (by decide)
                  have q710 := hw_qq m693 q684 (by decide) (by decide)
                  have q711 := hw_qq m693 q685 (by decide) (by decide)
                  have q712 := hw_qq m693 q686 (by decide) (by decide)
                  refine hw_aast (t := 5) (ci := 8) (q := (RX9, TX9, 7)) hx hb hK hH v80 rfl v692 rfl (fun comp c0 h1 h2 => by cases h1.symm.trans h2; exact va_asg _ _) (hw_in (x := 7) (by decide) (by decide)) (fun _ => by rw [k695]; exact ⟨_, rfl, hw_upq q709 k689⟩) hS (Or.inr w81) dX11_init_117 (fun H locs hH v80 oq hz hS => ?_)
                  have va := va_at.kept va (oq _ (hw_ne k696 k695 (by decide)))
                  have v17 := va_at.kept v17 (oq _ (hw_ne k697 k695 (by decide)))
                  have v39 := va_at.kept v39 (oq _ (hw_ne k698 k695 (by decide)))
                  have v65 := va_at.kept v65 (oq _ (hw_ne k699 k695 (by decide)))
                  have v98 := va_at.kept v98 (oq _ (hw_ne k700 k695 (by decide)))
                  have v118 := va_at.kept v118 (oq _ (hw_ne k701 k695 (by decide)))
                  have v232 := va_at.kept v232 (oq _ (hw_ne k705 k695 (by decide)))
                  have v692 := va_at.kept v692 (oq _ (hw_ne k689 k695 (by decide)))
                  have q715 : ∀ j b, j < 8 → (va_up (va_up (va_up (va_up (va_up (va_up (va_up (va_up (fun _ => none) (0 : Int32).toNatClampNeg (some q253)) (1 : Int32).toNatClampNeg (some q311)) (2 : Int32).toNatClampNeg (some q369)) (3 : Int32).toNatClampNeg (some q427)) (4 : Int32).toNatClampNeg (some q485)) (5 : Int32).toNatClampNeg (some q543)) (6 : Int32).toNatClampNeg (some q601)) (7 : Int32).toNatClampNeg (some q659)) j = some b → G687 b = 7 := hw_upq q709 k689
                  refine lv_iinc (v := 8) (lv' := [(1, .int 8), (0, .ref h0)]) hx hb dX11_init_118 hl (k := 0) rfl (by rfl) (by decide) rfl (fun ls hl => ?_)
                  refine lv_goto (tgt := 99) hx hb dX11_init_121 (by decide) ?_
                  refine lv_iload_n hx hb dX11_init_99 rfl (lv_at hl 0 rfl) ?_
                  refine lv_bipush (v := 8) hx hb dX11_init_100 (by decide) ?_
                  refine lv_icmp_ge (tgt := 124) hx hb dX11_init_102 (by decide) (fun c716 => ?_) (fun c716 => ?_)
                  · refine lv_iconst (v := 0) hx hb dX11_init_124 (by decide) ?_
                    refine lv_istore_n (lv' := [(1, .int 0), (0, .ref h0)]) hx hb dX11_init_125 rfl hl (by decide) rfl (fun ls hl => ?_)
                    refine lv_iload_n hx hb dX11_init_126 rfl (lv_at hl 0 rfl) ?_
                    refine lv_iconst (v := 2) hx hb dX11_init_127 (by decide) ?_
                    refine lv_icmp_ge (tgt := 163) hx hb dX11_init_128 (by decide) (fun c717 => ?_) (fun c717 => ?_)
                    · exact absurd c717 (by decide)
                    · refine lv_aload_n hx hb dX11_init_131 rfl (lv_at hl 1 rfl) ?_
                      refine hw_get hx hb fg_34_10 hK va rfl dX11_init_132 ?_
                      refine lv_iload_n hx hb dX11_init_135 rfl (lv_at hl 0 rfl) ?_
                      have hS0 := hS
                      refine hw_new hx hb 107 (ci := 8) (C := RX9) (T := TX9) (N := 7) hts (by decide +kernel) tyX9 tyX9_ok hown (hts (.classLink RX11 23 RX9) (by decide +kernel)) (hts (.instantiable RX9 7) (by decide +kernel)) (hts (.initialized RX9) (by decide +kernel)) hK hH hS rfl [.int 0, .int 0, .int 0, .null, .null, .null, .null] (fun j hj => by rcases (show j = 0 ∨ j = 1 ∨ j = 2 ∨ j = 3 ∨ j = 4 ∨ j = 5 ∨ j = 6 by omega) with rfl | rfl | rfl | rfl | rfl | rfl | rfl <;> rfl) (show hw_ok D.2.1 G687 107 _ from ⟨_, rfl⟩) (Nat.le_of_ble_eq_true rfl) (Nat.le_of_ble_eq_true rfl) dX11_init_136 (fun q718 G719 H hH m720 m721 k722 l723 e724 v725 oq hz hS => ?_)
                      have w726 : s.heap.size ≤ q718 := by have := hS0.1; omega
                      have g727 : ∀ x, x < s.heap.size → G719 x = G x := fun x h9 => (l723 x (Nat.lt_of_lt_of_le h9 hS0.1)).trans (g694 x h9)
                      have va := va_at.kept va (oq _ (hw_lt va))
                      have v17 := va_at.kept v17 (oq _ (hw_lt v17))
                      have v39 := va_at.kept v39 (oq _ (hw_lt v39))
                      have v65 := va_at.kept v65 (oq _ (hw_lt v65))
                      have v80 := va_at.kept v80 (oq _ (hw_lt v80))
                      have v98 := va_at.kept v98 (oq _ (hw_lt v98))
                      have v118 := va_at.kept v118 (oq _ (hw_lt v118))
                      have v232 := va_at.kept v232 (oq _ (hw_lt v232))
                      have k728 := hw_kg2 m721 k700 (by decide)
                      have k729 := hw_kg2 m721 k696 (by decide)
                      have k730 := hw_kg m720 k697 (by decide) (by decide)
                      have k731 := hw_kg m720 k698 (by decide) (by decide)
                      have k732 := hw_kg m720 k699 (by decide) (by decide)
                      have k733 := hw_kg2 m721 k695 (by decide)
                      have k734 := hw_kg2 m721 k701 (by decide)
                      have k735 := hw_kg m720 k702 (by decide) (by decide)
                      have k736 := hw_kg m720 k703 (by decide) (by decide)
                      have k737 := hw_kg m720 k704 (by decide) (by decide)
                      have k738 := hw_kg2 m721 k705 (by decide)
                      have R739 := hw_RC_mono m720 R706
                      have R740 := hw_RT_mono m720 R707
                      have R741 := hw_RS_mono m720 R708
                      have q742 := hw_qq m720 q715 (by decide) (by decide)
                      have q743 := hw_qq m720 q710 (by decide) (by decide)
                      have q744 := hw_qq m720 q711 (by decide) (by decide)
                      have q745 := hw_qq m720 q712 (by decide) (by decide)
                      refine lv_dup hx hb dX11_init_139 rfl ?_
                      have hHo := hH
                      have hS0 := hS
                      refine hw_cM (va_runIN (As := []) (rest := [.ref q718, .int 0, .ref q91]) ⟨hx, hb, hml, hown, hts⟩ (k_X9_init l D G719 q718 _ k722) ⟨va_cnB 0 hts gX11_init_X9_init_n25 rfl rfl rfl (hw_en25 hST.ex) (hts (.initialized RX9) (by decide +kernel)) (by decide +kernel) ⟨Nat.le_of_ble_eq_true rfl, Nat.le_of_ble_eq_true rfl⟩, rfl, hts (.instanceMethod yX9_init) (by decide +kernel)⟩ (hw_pS hH hK hST hS (by decide) (hw_hG g727) v725) rfl rfl hl.1 rfl (lv_room (Nat.le_of_ble_eq_true rfl)) dX11_init_140 ⟨Nat.le_of_ble_eq_true rfl, Nat.le_of_ble_eq_true rfl⟩) hS (hw_AWsub (by decide) g727 hS.1) (fun v H locs hp hz hk hS => ?_)
                      obtain ⟨G746, r749, rfl, hH, i747, k748, R750, v751⟩ := hp
                      have va := va_at.kept va (hk _ (hw_lt va) (hw_AWn k729 (by decide) (hw_lt va)))
                      have v17 := va_at.kept v17 (hk _ (hw_lt v17) (hw_AWn k730 (by decide) (hw_lt v17)))
                      have v39 := va_at.kept v39 (hk _ (hw_lt v39) (hw_AWn k731 (by decide) (hw_lt v39)))
                      have v65 := va_at.kept v65 (hk _ (hw_lt v65) (hw_AWn k732 (by decide) (hw_lt v65)))
                      have v80 := va_at.kept v80 (hk _ (hw_lt v80) (hw_AWn k733 (by decide) (hw_lt v80)))
                      have v98 := va_at.kept v98 (hk _ (hw_lt v98) (hw_AWn k728 (by decide) (hw_lt v98)))
                      have v118 := va_at.kept v118 (hk _ (hw_lt v118) (hw_AWn k734 (by decide) (hw_lt v118)))
                      have v232 := va_at.kept v232 (hk _ (hw_lt v232) (hw_AWn k738 (by decide) (hw_lt v232)))
                      have m752 : ∀ a, G719 a ≠ 0 → G719 a < 100 → G746 a = G719 a := fun a h0 h1 => i747 a (hHo.lt h0) (fun e => by rw [e, k722] at h1; exact absurd h1 (by decide))
                      have g753 : ∀ x, x < s.heap.size → G746 x = G x := fun x h9 => (i747 x (Nat.lt_of_lt_of_le h9 hS0.1) (fun e => by have := w726; omega)).trans (g727 x h9)
                      have k754 := hw_kg3 i747 hHo k722 k728 (by decide) (by decide)
                      have k755 := hw_kg3 i747 hHo k722 k729 (by decide) (by decide)
                      have k756 := hw_kg m752 k730 (by decide) (by decide)
                      have k757 := hw_kg m752 k731 (by decide) (by decide)
                      have k758 := hw_kg m752 k732 (by decide) (by decide)
                      have k759 := hw_kg3 i747 hHo k722 k733 (by decide) (by decide)
                      have k760 := hw_kg3 i747 hHo k722 k734 (by decide) (by decide)
                      have k761 := hw_kg m752 k735 (by decide) (by decide)
                      have k762 := hw_kg m752 k736 (by decide) (by decide)
                      have k763 := hw_kg m752 k737 (by decide) (by decide)
                      have k764 := hw_kg3 i747 hHo k722 k738 (by decide) (by decide)
                      have R765 := hw_RC_mono m752 R739
                      have R766 := hw_RT_mono m752 R740
                      have R767 := hw_RS_mono m752 R741
                      have q768 := hw_qq m752 q742 (by decide) (by decide)
                      have q769 := hw_qq m752 q743 (by decide) (by decide)
                      have q770 := hw_qq m752 q744 (by decide) (by decide)
                      have q771 := hw_qq m752 q745 (by decide) (by decide)
                      refine hw_aast (t := 5) (ci := 8) (q := (RX9, TX9, 7)) hx hb hK hH v98 rfl v751 rfl (fun comp c0 h1 h2 => by cases h1.symm.trans h2; exact va_asg _ _) (hw_in (x := 0) (by decide) (by decide)) (fun _ => by rw [k754]; exact ⟨_, rfl, hw_upq q769 k748⟩) hS (Or.inr w99) dX11_init_143 (fun H locs hH v98 oq hz hS => ?_)
                      have va := va_at.kept va (oq _ (hw_ne k755 k754 (by decide)))
                      have v17 := va_at.kept v17 (oq _ (hw_ne k756 k754 (by decide)))
                      have v39 := va_at.kept v39 (oq _ (hw_ne k757 k754 (by decide)))
                      have v65 := va_at.kept v65 (oq _ (hw_ne k758 k754 (by decide)))
                      have v80 := va_at.kept v80 (oq _ (hw_ne k759 k754 (by decide)))
                      have v118 := va_at.kept v118 (oq _ (hw_ne k760 k754 (by decide)))
                      have v232 := va_at.kept v232 (oq _ (hw_ne k764 k754 (by decide)))
                      have v751 := va_at.kept v751 (oq _ (hw_ne k748 k754 (by decide)))
                      have q774 : ∀ j b, j < 2 → (va_up (fun _ => none) (0 : Int32).toNatClampNeg (some q718)) j = some b → G746 b = 7 := hw_upq q769 k748
                      refine lv_aload_n hx hb dX11_init_144 rfl (lv_at hl 1 rfl) ?_
                      refine hw_get hx hb fg_37_10 hK va rfl dX11_init_145 ?_
                      refine lv_iload_n hx hb dX11_init_148 rfl (lv_at hl 0 rfl) ?_
                      have hS0 := hS
                      refine hw_new hx hb 108 (ci := 9) (C := RX10) (T := TX10) (N := 10) hts (by decide +kernel) tyX10 tyX10_ok hown (hts (.classLink RX11 16 RX10) (by decide +kernel)) (hts (.instantiable RX10 10) (by decide +kernel)) (hts (.initialized RX10) (by decide +kernel)) hK hH hS rfl [.null, .int 0, .int 0, .null, .null, .int 0, .int 0, .int 0, .int 0, .int 0] (fun j hj => by rcases (show j = 0 ∨ j = 1 ∨ j = 2 ∨ j = 3 ∨ j = 4 ∨ j = 5 ∨ j = 6 ∨ j = 7 ∨ j = 8 ∨ j = 9 by omega) with rfl | rfl | rfl | rfl | rfl | rfl | rfl | rfl | rfl | rfl <;> rfl) (show hw_ok D.2.1 G746 108 _ from ⟨_, rfl⟩) (Nat.le_of_ble_eq_true rfl) (Nat.le_of_ble_eq_true rfl) dX11_init_149 (fun q775 G776 H hH m777 m778 k779 l780 e781 v782 oq hz hS => ?_)
                      have w783 : s.heap.size ≤ q775 := by have := hS0.1; omega
                      have g784 : ∀ x, x < s.heap.size → G776 x = G x := fun x h9 => (l780 x (Nat.lt_of_lt_of_le h9 hS0.1)).trans (g753 x h9)
                      have va := va_at.kept va (oq _ (hw_lt va))
                      have v17 := va_at.kept v17 (oq _ (hw_lt v17))
                      have v39 := va_at.kept v39 (oq _ (hw_lt v39))
                      have v65 := va_at.kept v65 (oq _ (hw_lt v65))
                      have v80 := va_at.kept v80 (oq _ (hw_lt v80))
                      have v98 := va_at.kept v98 (oq _ (hw_lt v98))
                      have v118 := va_at.kept v118 (oq _ (hw_lt v118))
                      have v232 := va_at.kept v232 (oq _ (hw_lt v232))
                      have k785 := hw_kg2 m778 k760 (by decide)
                      have k786 := hw_kg2 m778 k755 (by decide)
                      have k787 := hw_kg m777 k756 (by decide) (by decide)
                      have k788 := hw_kg m777 k757 (by decide) (by decide)
                      have k789 := hw_kg m777 k758 (by decide) (by decide)
                      have k790 := hw_kg2 m778 k759 (by decide)
                      have k791 := hw_kg2 m778 k754 (by decide)
                      have k792 := hw_kg m777 k761 (by decide) (by decide)
                      have k793 := hw_kg m777 k762 (by decide) (by decide)
                      have k794 := hw_kg m777 k763 (by decide) (by decide)
                      have k795 := hw_kg2 m778 k764 (by decide)
                      have R796 := hw_RC_mono m777 R765
                      have R797 := hw_RT_mono m777 R766
                      have R798 := hw_RS_mono m777 R767
                      have q799 := hw_qq m777 q768 (by decide) (by decide)
                      have q800 := hw_qq m777 q774 (by decide) (by decide)
                      have q801 := hw_qq m777 q770 (by decide) (by decide)
                      have q802 := hw_qq m777 q771 (by decide) (by decide)
                      refine lv_dup hx hb dX11_init_152 rfl ?_
                      have hHo := hH
                      have hS0 := hS
                      refine hw_cM (va_runIN (As := []) (rest := [.ref q775, .int 0, .ref q111]) ⟨hx, hb, hml, hown, hts⟩ (k_X10_init l D G776 q775 _ k779) ⟨va_cnB 0 hts gX11_init_X10_init_n18 rfl rfl rfl (hw_en18 hST.ex) (hts (.initialized RX10) (by decide +kernel)) (by decide +kernel) ⟨Nat.le_of_ble_eq_true rfl, Nat.le_of_ble_eq_true rfl⟩, rfl, hts (.instanceMethod yX10_init) (by decide +kernel)⟩ (hw_pS hH hK hST hS (by decide) (hw_hG g784) v782) rfl rfl hl.1 rfl (lv_room (Nat.le_of_ble_eq_true rfl)) dX11_init_153 ⟨Nat.le_of_ble_eq_true rfl, Nat.le_of_ble_eq_true rfl⟩) hS (hw_AWsub (by decide) g784 hS.1) (fun v H locs hp hz hk hS => ?_)
                      obtain ⟨G803, r806, rfl, hH, i804, k805, R807, v808⟩ := hp
                      have va := va_at.kept va (hk _ (hw_lt va) (hw_AWn k786 (by decide) (hw_lt va)))
                      have v17 := va_at.kept v17 (hk _ (hw_lt v17) (hw_AWn k787 (by decide) (hw_lt v17)))
                      have v39 := va_at.kept v39 (hk _ (hw_lt v39) (hw_AWn k788 (by decide) (hw_lt v39)))
                      have v65 := va_at.kept v65 (hk _ (hw_lt v65) (hw_AWn k789 (by decide) (hw_lt v65)))
                      have v80 := va_at.kept v80 (hk _ (hw_lt v80) (hw_AWn k790 (by decide) (hw_lt v80)))
                      have v98 := va_at.kept v98 (hk _ (hw_lt v98) (hw_AWn k791 (by decide) (hw_lt v98)))
                      have v118 := va_at.kept v118 (hk _ (hw_lt v118) (hw_AWn k785 (by decide) (hw_lt v118)))
                      have v232 := va_at.kept v232 (hk _ (hw_lt v232) (hw_AWn k795 (by decide) (hw_lt v232)))
                      have m809 : ∀ a, G776 a ≠ 0 → G776 a < 100 → G803 a = G776 a := fun a h0 h1 => i804 a (hHo.lt h0) (fun e => by rw [e, k779] at h1; exact absurd h1 (by decide))
                      have g810 : ∀ x, x < s.heap.size → G803 x = G x := fun x h9 => (i804 x (Nat.lt_of_lt_of_le h9 hS0.1) (fun e => by have := w783; omega)).trans (g784 x h9)
                      have k811 := hw_kg3 i804 hHo k779 k785 (by decide) (by decide)
                      have k812 := hw_kg3 i804 hHo k779 k786 (by decide) (by decide)
                      have k813 := hw_kg m809 k787 (by decide) (by decide)
                      have k814 := hw_kg m809 k788 (by decide) (by decide)
                      have k815 := hw_kg m809 k789 (by decide) (by decide)
                      have k816 := hw_kg3 i804 hHo k779 k790 (by decide) (by decide)
                      have k817 := hw_kg3 i804 hHo k779 k791 (by decide) (by decide)
                      have k818 := hw_kg m809 k792 (by decide) (by decide)
                      have k819 := hw_kg m809 k793 (by decide) (by decide)
                      have k820 := hw_kg m809 k794 (by decide) (by decide)
                      have k821 := hw_kg3 i804 hHo k779 k795 (by decide) (by decide)
                      have R822 := hw_RC_mono m809 R796
                      have R823 := hw_RT_mono m809 R797
                      have R824 := hw_RS_mono m809 R798
                      have q825 := hw_qq m809 q799 (by decide) (by decide)
                      have q826 := hw_qq m809 q800 (by decide) (by decide)
                      have q827 := hw_qq m809 q801 (by decide) (by decide)
                      have q828 := hw_qq m809 q802 (by decide) (by decide)
                      refine hw_aast (t := 6) (ci := 9) (q := (RX10, TX10, 10)) hx hb hK hH v118 rfl v808 rfl (fun comp c0 h1 h2 => by cases h1.symm.trans h2; exact va_asg _ _) (hw_in (x := 0) (by decide) (by decide)) (fun _ => by rw [k811]; exact ⟨_, rfl, hw_upq q827 k805⟩) hS (Or.inr w119) dX11_init_156 (fun H locs hH v118 oq hz hS => ?_)
                      have va := va_at.kept va (oq _ (hw_ne k812 k811 (by decide)))
                      have v17 := va_at.kept v17 (oq _ (hw_ne k813 k811 (by decide)))
                      have v39 := va_at.kept v39 (oq _ (hw_ne k814 k811 (by decide)))
                      have v65 := va_at.kept v65 (oq _ (hw_ne k815 k811 (by decide)))
                      have v80 := va_at.kept v80 (oq _ (hw_ne k816 k811 (by decide)))
                      have v98 := va_at.kept v98 (oq _ (hw_ne k817 k811 (by decide)))
                      have v232 := va_at.kept v232 (oq _ (hw_ne k821 k811 (by decide)))
                      have v808 := va_at.kept v808 (oq _ (hw_ne k805 k811 (by decide)))
                      have q831 : ∀ j b, j < 2 → (va_up (fun _ => none) (0 : Int32).toNatClampNeg (some q775)) j = some b → G803 b = 8 := hw_upq q827 k805
                      refine lv_iinc (v := 1) (lv' := [(1, .int 1), (0, .ref h0)]) hx hb dX11_init_157 hl (k := 0) rfl (by rfl) (by decide) rfl (fun ls hl => ?_)
                      refine lv_goto (tgt := 126) hx hb dX11_init_160 (by decide) ?_
                      refine lv_iload_n hx hb dX11_init_126 rfl (lv_at hl 0 rfl) ?_
                      refine lv_iconst (v := 2) hx hb dX11_init_127 (by decide) ?_
                      refine lv_icmp_ge (tgt := 163) hx hb dX11_init_128 (by decide) (fun c832 => ?_) (fun c832 => ?_)
                      · exact absurd c832 (by decide)
                      · refine lv_aload_n hx hb dX11_init_131 rfl (lv_at hl 1 rfl) ?_
                        refine hw_get hx hb fg_34_10 hK va rfl dX11_init_132 ?_
                        refine lv_iload_n hx hb dX11_init_135 rfl (lv_at hl 0 rfl) ?_
                        have hS0 := hS
                        refine hw_new hx hb 107 (ci := 8) (C := RX9) (T := TX9) (N := 7) hts (by decide +kernel) tyX9 tyX9_ok hown (hts (.classLink RX11 23 RX9) (by decide +kernel)) (hts (.instantiable RX9 7) (by decide +kernel)) (hts (.initialized RX9) (by decide +kernel)) hK hH hS rfl [.int 0, .int 0, .int 0, .null, .null, .null, .null] (fun j hj => by rcases (show j = 0 ∨ j = 1 ∨ j = 2 ∨ j = 3 ∨ j = 4 ∨ j = 5 ∨ j = 6 by omega) with rfl | rfl | rfl | rfl | rfl | rfl | rfl <;> rfl) (show hw_ok D.2.1 G803 107 _ from ⟨_, rfl⟩) (Nat.le_of_ble_eq_true rfl) (Nat.le_of_ble_eq_true rfl) dX11_init_136 (fun q833 G834 H hH m835 m836 k837 l838 e839 v840 oq hz hS => ?_)
                        have w841 : s.heap.size ≤ q833 := by have := hS0.1; omega
                        have g842 : ∀ x, x < s.heap.size → G834 x = G x := fun x h9 => (l838 x (Nat.lt_of_lt_of_le h9 hS0.1)).trans (g810 x h9)
                        have va := va_at.kept va (oq _ (hw_lt va))
                        have v17 := va_at.kept v17 (oq _ (hw_lt v17))
                        have v39 := va_at.kept v39 (oq _ (hw_lt v39))
                        have v65 := va_at.kept v65 (oq _ (hw_lt v65))
                        have v80 := va_at.kept v80 (oq _ (hw_lt v80))
                        have v98 := va_at.kept v98 (oq _ (hw_lt v98))
                        have v118 := va_at.kept v118 (oq _ (hw_lt v118))
                        have v232 := va_at.kept v232 (oq _ (hw_lt v232))
                        have k843 := hw_kg2 m836 k817 (by decide)
                        have k844 := hw_kg2 m836 k812 (by decide)
                        have k845 := hw_kg m835 k813 (by decide) (by decide)
                        have k846 := hw_kg m835 k814 (by decide) (by decide)
                        have k847 := hw_kg m835 k815 (by decide) (by decide)
                        have k848 := hw_kg2 m836 k816 (by decide)
                        have k849 := hw_kg2 m836 k811 (by decide)
                        have k850 := hw_kg m835 k818 (by decide) (by decide)
                        have k851 := hw_kg m835 k819 (by decide) (by decide)
                        have k852 := hw_kg m835 k820 (by decide) (by decide)
                        have k853 := hw_kg2 m836 k821 (by decide)
                        have R854 := hw_RC_mono m835 R822
                        have R855 := hw_RT_mono m835 R823
                        have R856 := hw_RS_mono m835 R824
                        have q857 := hw_qq m835 q825 (by decide) (by decide)
                        have q858 := hw_qq m835 q826 (by decide) (by decide)
                        have q859 := hw_qq m835 q831 (by decide) (by decide)
                        have q860 := hw_qq m835 q828 (by decide) (by decide)
                        refine lv_dup hx hb dX11_init_139 rfl ?_
                        have hHo := hH
                        have hS0 := hS
                        refine hw_cM (va_runIN (As := []) (rest := [.ref q833, .int 1, .ref q91]) ⟨hx, hb, hml, hown, hts⟩ (k_X9_init l D G834 q833 _ k837) ⟨va_cnB 0 hts gX11_init_X9_init_n25 rfl rfl rfl (hw_en25 hST.ex) (hts (.initialized RX9) (by decide +kernel)) (by decide +kernel) ⟨Nat.le_of_ble_eq_true rfl, Nat.le_of_ble_eq_true rfl⟩, rfl, hts (.instanceMethod yX9_init) (by decide +kernel)⟩ (hw_pS hH hK hST hS (by decide) (hw_hG g842) v840) rfl rfl hl.1 rfl (lv_room (Nat.le_of_ble_eq_true rfl)) dX11_init_140 ⟨Nat.le_of_ble_eq_true rfl, Nat.le_of_ble_eq_true rfl⟩) hS (hw_AWsub (by decide) g842 hS.1) (fun v H locs hp hz hk hS => ?_)
                        obtain ⟨G861, r864, rfl, hH, i862, k863, R865, v866⟩ := hp
                        have va := va_at.kept va (hk _ (hw_lt va) (hw_AWn k844 (by decide) (hw_lt va)))
                        have v17 := va_at.kept v17 (hk _ (hw_lt v17) (hw_AWn k845 (by decide) (hw_lt v17)))
                        have v39 := va_at.kept v39 (hk _ (hw_lt v39) (hw_AWn k846 (by decide) (hw_lt v39)))
                        have v65 := va_at.kept v65 (hk _ (hw_lt v65) (hw_AWn k847 (by decide) (hw_lt v65)))
                        have v80 := va_at.kept v80 (hk _ (hw_lt v80) (hw_AWn k848 (by decide) (hw_lt v80)))
                        have v98 := va_at.kept v98 (hk _ (hw_lt v98) (hw_AWn k843 (by decide) (hw_lt v98)))
                        have v118 := va_at.kept v118 (hk _ (hw_lt v118) (hw_AWn k849 (by decide) (hw_lt v118)))
                        have v232 := va_at.kept v232 (hk _ (hw_lt v232) (hw_AWn k853 (by decide) (hw_lt v232)))
                        have m867 : ∀ a, G834 a ≠ 0 → G834 a < 100 → G861 a = G834 a := fun a h0 h1 => i862 a (hHo.lt h0) (fun e => by rw [e, k837] at h1; exact absurd h1 (by decide))
                        have g868 : ∀ x, x < s.heap.size → G861 x = G x := fun x h9 => (i862 x (Nat.lt_of_lt_of_le h9 hS0.1) (fun e => by have := w841; omega)).trans (g842 x h9)
                        have k869 := hw_kg3 i862 hHo k837 k843 (by decide) (by decide)
                        have k870 := hw_kg3 i862 hHo k837 k844 (by decide) (by decide)
                        have k871 := hw_kg m867 k845 (by decide) (by decide)
                        have k872 := hw_kg m867 k846 (by decide) (by decide)
                        have k873 := hw_kg m867 k847 (by decide) (by decide)
                        have k874 := hw_kg3 i862 hHo k837 k848 (by decide) (by decide)
                        have k875 := hw_kg3 i862 hHo k837 k849 (by decide) (by decide)
                        have k876 := hw_kg m867 k850 (by decide) (by decide)
                        have k877 := hw_kg m867 k851 (by decide) (by decide)
                        have k878 := hw_kg m867 k852 (by decide) (by decide)
                        have k879 := hw_kg3 i862 hHo k837 k853 (by decide) (by decide)
                        have R880 := hw_RC_mono m867 R854
                        have R881 := hw_RT_mono m867 R855
                        have R882 := hw_RS_mono m867 R856
                        have q883 := hw_qq m867 q857 (by decide) (by decide)
                        have q884 := hw_qq m867 q858 (by decide) (by decide)
                        have q885 := hw_qq m867 q859 (by decide) (by decide)
                        have q886 := hw_qq m867 q860 (by decide) (by decide)
                        refine hw_aast (t := 5) (ci := 8) (q := (RX9, TX9, 7)) hx hb hK hH v98 rfl v866 rfl (fun comp c0 h1 h2 => by cases h1.symm.trans h2; exact va_asg _ _) (hw_in (x := 1) (by decide) (by decide)) (fun _ => by rw [k869]; exact ⟨_, rfl, hw_upq q884 k863⟩) hS (Or.inr w99) dX11_init_143 (fun H locs hH v98 oq hz hS => ?_)
                        have va := va_at.kept va (oq _ (hw_ne k870 k869 (by decide)))
                        have v17 := va_at.kept v17 (oq _ (hw_ne k871 k869 (by decide)))
                        have v39 := va_at.kept v39 (oq _ (hw_ne k872 k869 (by decide)))
                        have v65 := va_at.kept v65 (oq _ (hw_ne k873 k869 (by decide)))
                        have v80 := va_at.kept v80 (oq _ (hw_ne k874 k869 (by decide)))
                        have v118 := va_at.kept v118 (oq _ (hw_ne k875 k869 (by decide)))
                        have v232 := va_at.kept v232 (oq _ (hw_ne k879 k869 (by decide)))
                        have v866 := va_at.kept v866 (oq _ (hw_ne k863 k869 (by decide)))
                        have q889 : ∀ j b, j < 2 → (va_up (va_up (fun _ => none) (0 : Int32).toNatClampNeg (some q718)) (1 : Int32).toNatClampNeg (some q833)) j = some b → G861 b = 7 := hw_upq q884 k863
                        refine lv_aload_n hx hb dX11_init_144 rfl (lv_at hl 1 rfl) ?_
                        refine hw_get hx hb fg_37_10 hK va rfl dX11_init_145 ?_
                        refine lv_iload_n hx hb dX11_init_148 rfl (lv_at hl 0 rfl) ?_
                        have hS0 := hS
                        refine hw_new hx hb 108 (ci := 9) (C := RX10) (T := TX10) (N := 10) hts (by decide +kernel) tyX10 tyX10_ok hown (hts (.classLink RX11 16 RX10) (by decide +kernel)) (hts (.instantiable RX10 10) (by decide +kernel)) (hts (.initialized RX10) (by decide +kernel)) hK hH hS rfl [.null, .int 0, .int 0, .null, .null, .int 0, .int 0, .int 0, .int 0, .int 0] (fun j hj => by rcases (show j = 0 ∨ j = 1 ∨ j = 2 ∨ j = 3 ∨ j = 4 ∨ j = 5 ∨ j = 6 ∨ j = 7 ∨ j = 8 ∨ j = 9 by omega) with rfl | rfl | rfl | rfl | rfl | rfl | rfl | rfl | rfl | rfl <;> rfl) (show hw_ok D.2.1 G861 108 _ from ⟨_, rfl⟩) (Nat.le_of_ble_eq_true rfl) (Nat.le_of_ble_eq_true rfl) dX11_init_149 (fun q890 G891 H hH m892 m893 k894 l895 e896 v897 oq hz hS => ?_)
                        have w898 : s.heap.size ≤ q890 := by have := hS0.1; omega
                        have g899 : ∀ x, x < s.heap.size → G891 x = G x := fun x h9 => (l895 x (Nat.lt_of_lt_of_le h9 hS0.1)).trans (g868 x h9)
                        have va := va_at.kept va (oq _ (hw_lt va))
                        have v17 := va_at.kept v17 (oq _ (hw_lt v17))
                        have v39 := va_at.kept v39 (oq _ (hw_lt v39))
                        have v65 := va_at.kept v65 (oq _ (hw_lt v65))
                        have v80 := va_at.kept v80 (oq _ (hw_lt v80))
                        have v98 := va_at.kept v98 (oq _ (hw_lt v98))
                        have v118 := va_at.kept v118 (oq _ (hw_lt v118))
                        have v232 := va_at.kept v232 (oq _ (hw_lt v232))
                        have k900 := hw_kg2 m893 k875 (by decide)
                        have k901 := hw_kg2 m893 k870 (by decide)
                        have k902 := hw_kg m892 k871 (by decide) (by decide)
                        have k903 := hw_kg m892 k872 (by decide) (by decide)
                        have k904 := hw_kg m892 k873 (by decide) (by decide)
                        have k905 := hw_kg2 m893 k874 (by decide)
                        have k906 := hw_kg2 m893 k869 (by decide)
                        have k907 := hw_kg m892 k876 (by decide) (by decide)
                        have k908 := hw_kg m892 k877 (by decide) (by decide)
                        have k909 := hw_kg m892 k878 (by decide) (by decide)
                        have k910 := hw_kg2 m893 k879 (by decide)
                        have R911 := hw_RC_mono m892 R880
                        have R912 := hw_RT_mono m892 R881
                        have R913 := hw_RS_mono m892 R882
                        have q914 := hw_qq m892 q883 (by decide) (by decide)
                        have q915 := hw_qq m892 q889 (by decide) (by decide)
                        have q916 := hw_qq m892 q885 (by decide) (by decide)
                        have q917 := hw_qq m892 q886 (by decide) (by decide)
                        refine lv_dup hx hb dX11_init_152 rfl ?_
                        have hHo := hH
                        have hS0 := hS
                        refine hw_cM (va_runIN (As := []) (rest := [.ref q890, .int 1, .ref q111]) ⟨hx, hb, hml, hown, hts⟩ (k_X10_init l D G891 q890 _ k894) ⟨va_cnB 0 hts gX11_init_X10_init_n18 rfl rfl rfl (hw_en18 hST.ex) (hts (.initialized RX10) (by decide +kernel)) (by decide +kernel) ⟨Nat.le_of_ble_eq_true rfl, Nat.le_of_ble_eq_true rfl⟩, rfl, hts (.instanceMethod yX10_init) (by decide +kernel)⟩ (hw_pS hH hK hST hS (by decide) (hw_hG g899) v897) rfl rfl hl.1 rfl (lv_room (Nat.le_of_ble_eq_true rfl)) dX11_init_153 ⟨Nat.le_of_ble_eq_true rfl, Nat.le_of_ble_eq_true rfl⟩) hS (hw_AWsub (by decide) g899 hS.1) (fun v H locs hp hz hk hS => ?_)
                        obtain ⟨G918, r921, rfl, hH, i919, k920, R922, v923⟩ := hp
                        have va := va_at.kept va (hk _ (hw_lt va) (hw_AWn k901 (by decide) (hw_lt va)))
                        have v17 := va_at.kept v17 (hk _ (hw_lt v17) (hw_AWn k902 (by decide) (hw_lt v17)))
                        have v39 := va_at.kept v39 (hk _ (hw_lt v39) (hw_AWn k903 (by decide) (hw_lt v39)))
                        have v65 := va_at.kept v65 (hk _ (hw_lt v65) (hw_AWn k904 (by decide) (hw_lt v65)))
                        have v80 := va_at.kept v80 (hk _ (hw_lt v80) (hw_AWn k905 (by decide) (hw_lt v80)))
                        have v98 := va_at.kept v98 (hk _ (hw_lt v98) (hw_AWn k906 (by decide) (hw_lt v98)))
                        have v118 := va_at.kept v118 (hk _ (hw_lt v118) (hw_AWn k900 (by decide) (hw_lt v118)))
                        have v232 := va_at.kept v232 (hk _ (hw_lt v232) (hw_AWn k910 (by decide) (hw_lt v232)))
                        have m924 : ∀ a, G891 a ≠ 0 → G891 a < 100 → G918 a = G891 a := fun a h0 h1 => i919 a (hHo.lt h0) (fun e => by rw [e, k894] at h1; exact absurd h1 (by decide))
                        have g925 : ∀ x, x < s.heap.size → G918 x = G x := fun x h9 => (i919 x (Nat.lt_of_lt_of_le h9 hS0.1) (fun e => by have := w898; omega)).trans (g899 x h9)
                        have k926 := hw_kg3 i919 hHo k894 k900 (by decide) (by decide)
                        have k927 := hw_kg3 i919 hHo k894 k901 (by decide) (by decide)
                        have k928 := hw_kg m924 k902 (by decide) (by decide)
                        have k929 := hw_kg m924 k903 (by decide) (by decide)
                        have k930 := hw_kg m924 k904 (by decide) (by decide)
                        have k931 := hw_kg3 i919 hHo k894 k905 (by decide) (by decide)
                        have k932 := hw_kg3 i919 hHo k894 k906 (by decide) (by decide)
                        have k933 := hw_kg m924 k907 (by decide) (by decide)
                        have k934 := hw_kg m924 k908 (by decide) (by decide)
                        have k935 := hw_kg m924 k909 (by decide) (by decide)
                        have k936 := hw_kg3 i919 hHo k894 k910 (by decide) (by decide)
                        have R937 := hw_RC_mono m924 R911
                        have R938 := hw_RT_mono m924 R912
                        have R939 := hw_RS_mono m924 R913
                        have q940 := hw_qq m924 q914 (by decide) (by decide)
                        have q941 := hw_qq m924 q915 (by decide) (by decide)
                        have q942 := hw_qq m924 q916 (by decide) (by decide)
                        have q943 := hw_qq m924 q917 (by decide) (by decide)
                        refine hw_aast (t := 6) (ci := 9) (q := (RX10, TX10, 10)) hx hb hK hH v118 rfl v923 rfl (fun comp c0 h1 h2 => by cases h1.symm.trans h2; exact va_asg _ _) (hw_in (x := 1) (by decide) (by decide)) (fun _ => by rw [k926]; exact ⟨_, rfl, hw_upq q942 k920⟩) hS (Or.inr w119) dX11_init_156 (fun H locs hH v118 oq hz hS => ?_)
                        have va := va_at.kept va (oq _ (hw_ne k927 k926 (by decide)))
                        have v17 := va_at.kept v17 (oq _ (hw_ne k928 k926 (by decide)))
                        have v39 := va_at.kept v39 (oq _ (hw_ne k929 k926 (by decide)))
                        have v65 := va_at.kept v65 (oq _ (hw_ne k930 k926 (by decide)))
                        have v80 := va_at.kept v80 (oq _ (hw_ne k931 k926 (by decide)))
                        have v98 := va_at.kept v98 (oq _ (hw_ne k932 k926 (by decide)))
                        have v232 := va_at.kept v232 (oq _ (hw_ne k936 k926 (by decide)))
                        have v923 := va_at.kept v923 (oq _ (hw_ne k920 k926 (by decide)))
                        have q946 : ∀ j b, j < 2 → (va_up (va_up (fun _ => none) (0 : Int32).toNatClampNeg (some q775)) (1 : Int32).toNatClampNeg (some q890)) j = some b → G918 b = 8 := hw_upq q942 k920
                        refine lv_iinc (v := 2) (lv' := [(1, .int 2), (0, .ref h0)]) hx hb dX11_init_157 hl (k := 0) rfl (by rfl) (by decide) rfl (fun ls hl => ?_)
                        refine lv_goto (tgt := 126) hx hb dX11_init_160 (by decide) ?_
                        refine lv_iload_n hx hb dX11_init_126 rfl (lv_at hl 0 rfl) ?_
                        refine lv_iconst (v := 2) hx hb dX11_init_127 (by decide) ?_
                        refine lv_icmp_ge (tgt := 163) hx hb dX11_init_128 (by decide) (fun c947 => ?_) (fun c947 => ?_)
                        · refine lv_iconst (v := 0) hx hb dX11_init_163 (by decide) ?_
                          refine lv_istore_n (lv' := [(1, .int 0), (0, .ref h0)]) hx hb dX11_init_164 rfl hl (by decide) rfl (fun ls hl => ?_)
                          refine lv_iload_n hx hb dX11_init_165 rfl (lv_at hl 0 rfl) ?_
                          refine lv_iconst (v := 4) hx hb dX11_init_166 (by decide) ?_
                          refine lv_icmp_ge (tgt := 189) hx hb dX11_init_167 (by decide) (fun c948 => ?_) (fun c948 => ?_)
                          · exact absurd c948 (by decide)
                          · refine lv_aload_n hx hb dX11_init_170 rfl (lv_at hl 1 rfl) ?_
                            refine hw_get hx hb fg_57_10 hK va rfl dX11_init_171 ?_
                            refine lv_iload_n hx hb dX11_init_174 rfl (lv_at hl 0 rfl) ?_
                            have hS0 := hS
                            refine hw_new hx hb 106 (ci := 6) (C := RX7) (T := TX7) (N := 3) hts (by decide +kernel) tyX7 tyX7_ok hown (hts (.classLink RX11 55 RX7) (by decide +kernel)) (hts (.instantiable RX7 3) (by decide +kernel)) (hts (.initialized RX7) (by decide +kernel)) hK hH hS rfl [.null, .int 0, .int 0] (fun j hj => by rcases (show j = 0 ∨ j = 1 ∨ j = 2 by omega) with rfl | rfl | rfl <;> rfl) (show hw_ok D.2.1 G918 106 _ from ⟨_, rfl⟩) (Nat.le_of_ble_eq_true rfl) (Nat.le_of_ble_eq_true rfl) dX11_init_175 (fun q949 G950 H hH m951 m952 k953 l954 e955 v956 oq hz hS => ?_)
                            have w957 : s.heap.size ≤ q949 := by have := hS0.1; omega
                            have g958 : ∀ x, x < s.heap.size → G950 x = G x := fun x h9 => (l954 x (Nat.lt_of_lt_of_le h9 hS0.1)).trans (g925 x h9)
                            have va := va_at.kept va (oq _ (hw_lt va))
                            have v17 := va_at.kept v17 (oq _ (hw_lt v17))
                            have v39 := va_at.kept v39 (oq _ (hw_lt v39))
                            have v65 := va_at.kept v65 (oq _ (hw_lt v65))
                            have v80 := va_at.kept v80 (oq _ (hw_lt v80))
                            have v98 := va_at.kept v98 (oq _ (hw_lt v98))
                            have v118 := va_at.kept v118 (oq _ (hw_lt v118))
                            have v232 := va_at.kept v232 (oq _ (hw_lt v232))
                            have k959 := hw_kg2 m952 k936 (by decide)
                            have k960 := hw_kg2 m952 k927 (by decide)
                            have k961 := hw_kg m951 k928 (by decide) (by decide)
                            have k962 := hw_kg m951 k929 (by decide) (by decide)
                            have k963 := hw_kg m951 k930 (by decide) (by decide)
                            have k964 := hw_kg2 m952 k931 (by decide)
                            have k965 := hw_kg2 m952 k932 (by decide)
                            have k966 := hw_kg2 m952 k926 (by decide)
                            have k967 := hw_kg m951 k933 (by decide) (by decide)
                            have k968 := hw_kg m951 k934 (by decide) (by decide)
                            have k969 := hw_kg m951 k935 (by decide) (by decide)
                            have R970 := hw_RC_mono m951 R937
                            have R971 := hw_RT_mono m951 R938
                            have R972 := hw_RS_mono m951 R939
                            have q973 := hw_qq m951 q940 (by decide) (by decide)
                            have q974 := hw_qq m951 q941 (by decide) (by decide)
                            have q975 := hw_qq m951 q946 (by decide) (by decide)
                            have q976 := hw_qq m951 q943 (by decide) (by decide)
                            refine lv_dup hx hb dX11_init_178 rfl ?_
                            have hHo := hH
                            have hS0 := hS
                            refine hw_cM (va_runIN (As := []) (rest := [.ref q949, .int 0, .ref q225]) ⟨hx, hb, hml, hown, hts⟩ (k_X7_init l D G950 q949 _ k953) ⟨va_cnB 0 hts gX11_init_X7_init_n61 rfl rfl rfl (hw_en61 hST.ex) (hts (.initialized RX7) (by decide +kernel)) (by decide +kernel) ⟨Nat.le_of_ble_eq_true rfl, Nat.le_of_ble_eq_true rfl⟩, rfl, hts (.instanceMethod yX7_init) (by decide +kernel)⟩ (hw_pS hH hK hST hS (by decide) (hw_hG g958) v956) rfl rfl hl.1 rfl (lv_room (Nat.le_of_ble_eq_true rfl)) dX11_init_179 ⟨Nat.le_of_ble_eq_true rfl, Nat.le_of_ble_eq_true rfl⟩) hS (hw_AWsub (by decide) g958 hS.1) (fun v H locs hp hz hk hS => ?_)
                            obtain ⟨G977, r980, rfl, hH, i978, k979, R981, v982⟩ := hp
                            have va := va_at.kept va (hk _ (hw_lt va) (hw_AWn k960 (by decide) (hw_lt va)))
                            have v17 := va_at.kept v17 (hk _ (hw_lt v17) (hw_AWn k961 (by decide) (hw_lt v17)))
                            have v39 := va_at.kept v39 (hk _ (hw_lt v39) (hw_AWn k962 (by decide) (hw_lt v39)))
                            have v65 := va_at.kept v65 (hk _ (hw_lt v65) (hw_AWn k963 (by decide) (hw_lt v65)))
                            have v80 := va_at.kept v80 (hk _ (hw_lt v80) (hw_AWn k964 (by decide) (hw_lt v80)))
                            have v98 := va_at.kept v98 (hk _ (hw_lt v98) (hw_AWn k965 (by decide) (hw_lt v98)))
                            have v118 := va_at.kept v118 (hk _ (hw_lt v118) (hw_AWn k966 (by decide) (hw_lt v118)))
                            have v232 := va_at.kept v232 (hk _ (hw_lt v232) (hw_AWn k959 (by decide) (hw_lt v232)))
                            have m983 : ∀ a, G950 a ≠ 0 → G950 a < 100 → G977 a = G950 a := fun a h0 h1 => i978 a (hHo.lt h0) (fun e => by rw [e, k953] at h1; exact absurd h1 (by decide))
                            have g984 : ∀ x, x < s.heap.size → G977 x = G x := fun x h9 => (i978 x (Nat.lt_of_lt_of_le h9 hS0.1) (fun e => by have := w957; omega)).trans (g958 x h9)
                            have k985 := hw_kg3 i978 hHo k953 k959 (by decide) (by decide)
                            have k986 := hw_kg3 i978 hHo k953 k960 (by decide) (by decide)
                            have k987 := hw_kg m983 k961 (by decide) (by decide)
                            have k988 := hw_kg m983 k962 (by decide) (by decide)
                            have k989 := hw_kg m983 k963 (by decide) (by decide)
                            have k990 := hw_kg3 i978 hHo k953 k964 (by decide) (by decide)
                            have k991 := hw_kg3 i978 hHo k953 k965 (by decide) (by decide)
                            have k992 := hw_kg3 i978 hHo k953 k966 (by decide) (by decide)
                            have k993 := hw_kg m983 k967 (by decide) (by decide)
                            have k994 := hw_kg m983 k968 (by decide) (by decide)
                            have k995 := hw_kg m983 k969 (by decide) (by decide)
                            have R996 := hw_RC_mono m983 R970
                            have R997 := hw_RT_mono m983 R971
                            have R998 := hw_RS_mono m983 R972
                            have q999 := hw_qq m983 q973 (by decide) (by decide)
                            have q1000 := hw_qq m983 q974 (by decide) (by decide)
                            have q1001 := hw_qq m983 q975 (by decide) (by decide)
                            have q1002 := hw_qq m983 q976 (by decide) (by decide)
                            refine hw_aast (t := 7) (ci := 6) (q := (RX7, TX7, 3)) hx hb hK hH v232 rfl v982 rfl (fun comp c0 h1 h2 => by cases h1.symm.trans h2; exact va_asg _ _) (hw_in (x := 0) (by decide) (by decide)) (fun _ => by rw [k985]; exact ⟨_, rfl, hw_upq q1002 k979⟩) hS (Or.inr w233) dX11_init_182 (fun H locs hH v232 oq hz hS => ?_)
                            have va := va_at.kept va (oq _ (hw_ne k986 k985 (by decide)))
                            have v17 := va_at.kept v17 (oq _ (hw_ne k987 k985 (by decide)))
                            have v39 := va_at.kept v39 (oq _ (hw_ne k988 k985 (by decide)))
                            have v65 := va_at.kept v65 (oq _ (hw_ne k989 k985 (by decide)))
                            have v80 := va_at.kept v80 (oq _ (hw_ne k990 k985 (by decide)))
                            have v98 := va_at.kept v98 (oq _ (hw_ne k991 k985 (by decide)))
                            have v118 := va_at.kept v118 (oq _ (hw_ne k992 k985 (by decide)))
                            have v982 := va_at.kept v982 (oq _ (hw_ne k979 k985 (by decide)))
                            have q1005 : ∀ j b, j < 4 → (va_up (fun _ => none) (0 : Int32).toNatClampNeg (some q949)) j = some b → G977 b = 6 := hw_upq q1002 k979
                            refine lv_iinc (v := 1) (lv' := [(1, .int 1), (0, .ref h0)]) hx hb dX11_init_183 hl (k := 0) rfl (by rfl) (by decide) rfl (fun ls hl => ?_)
                            refine lv_goto (tgt := 165) hx hb dX11_init_186 (by decide) ?_
                            refine lv_iload_n hx hb dX11_init_165 rfl (lv_at hl 0 rfl) ?_
                            refine lv_iconst (v := 4) hx hb dX11_init_166 (by decide) ?_
                            refine lv_icmp_ge (tgt := 189) hx hb dX11_init_167 (by decide) (fun c1006 => ?_) (fun c1006 => ?_)
                            · exact absurd c1006 (by decide)
                            · refine lv_aload_n hx hb dX11_init_170 rfl (lv_at hl 1 rfl) ?_
                              refine hw_get hx hb fg_57_10 hK va rfl dX11_init_171 ?_
                              refine lv_iload_n hx hb dX11_init_174 rfl (lv_at hl 0 rfl) ?_
                              have hS0 := hS
                              refine hw_new hx hb 106 (ci := 6) (C := RX7) (T := TX7) (N := 3) hts (by decide +kernel) tyX7 tyX7_ok hown (hts (.classLink RX11 55 RX7) (by decide +kernel)) (hts (.instantiable RX7 3) (by decide +kernel)) (hts (.initialized RX7) (by decide +kernel)) hK hH hS rfl [.null, .int 0, .int 0] (fun j hj => by rcases (show j = 0 ∨ j = 1 ∨ j = 2 by omega) with rfl | rfl | rfl <;> rfl) (show hw_ok D.2.1 G977 106 _ from ⟨_, rfl⟩) (Nat.le_of_ble_eq_true rfl) (Nat.le_of_ble_eq_true rfl) dX11_init_175 (fun q1007 G1008 H hH m1009 m1010 k1011 l1012 e1013 v1014 oq hz hS => ?_)
                              have n1017 : q949 ≠ q1007 := by have := hw_lt v982; omega
                              have w1015 : s.heap.size ≤ q1007 := by have := hS0.1; omega
                              have g1016 : ∀ x, x < s.heap.size → G1008 x = G x := fun x h9 => (l1012 x (Nat.lt_of_lt_of_le h9 hS0.1)).trans (g984 x h9)
                              have va := va_at.kept va (oq _ (hw_lt va))
                              have v17 := va_at.kept v17 (oq _ (hw_lt v17))
                              have v39 := va_at.kept v39 (oq _ (hw_lt v39))
                              have v65 := va_at.kept v65 (oq _ (hw_lt v65))
                              have v80 := va_at.kept v80 (oq _ (hw_lt v80))
                              have v98 := va_at.kept v98 (oq _ (hw_lt v98))
                              have v118 := va_at.kept v118 (oq _ (hw_lt v118))
                              have v232 := va_at.kept v232 (oq _ (hw_lt v232))
                              have v982 := va_at.kept v982 (oq _ (hw_lt v982))
                              have k1018 := hw_kg2 m1010 k985 (by decide)
                              have k1019 := hw_kg2 m1010 k986 (by decide)
                              have k1020 := hw_kg m1009 k987 (by decide) (by decide)
                              have k1021 := hw_kg m1009 k988 (by decide) (by decide)
                              have k1022 := hw_kg m1009 k989 (by decide) (by decide)
                              have k1023 := hw_kg2 m1010 k990 (by decide)
                              have k1024 := hw_kg2 m1010 k991 (by decide)
                              have k1025 := hw_kg2 m1010 k992 (by decide)
                              have k1026 := hw_kg m1009 k993 (by decide) (by decide)
                              have k1027 := hw_kg m1009 k994 (by decide) (by decide)
                              have k1028 := hw_kg m1009 k995 (by decide) (by decide)
                              have R1029 := hw_RC_mono m1009 R996
                              have R1030 := hw_RT_mono m1009 R997
                              have R1031 := hw_RS_mono m1009 R998
                              have q1032 := hw_qq m1009 q999 (by decide) (by decide)
                              have q1033 := hw_qq m1009 q1000 (by decide) (by decide)
                              have q1034 := hw_qq m1009 q1001 (by decide) (by decide)
                              have q1035 := hw_qq m1009 q1005 (by decide) (by decide)
                              have k1036 := hw_kg m1009 k979 (by decide) (by decide)
                              have R1037 := hw_RK_mono m1009 R981
                              refine lv_dup hx hb dX11_init_178 rfl ?_
                              have hHo := hH
                              have hS0 := hS
                              refine hw_cM (va_runIN (As := []) (rest := [.ref q1007, .int 1, .ref q225]) ⟨hx, hb, hml, hown, hts⟩ (k_X7_init l D G1008 q1007 _ k1011) ⟨va_cnB 0 hts gX11_init_X7_init_n61 rfl rfl rfl (hw_en61 hST.ex) (hts (.initialized RX7) (by decide +kernel)) (by decide +kernel) ⟨Nat.le_of_ble_eq_true rfl, Nat.le_of_ble_eq_true rfl⟩, rfl, hts (.instanceMethod yX7_init) (by decide +kernel)⟩ (hw_pS hH hK hST hS (by decide) (hw_hG g1016) v1014) rfl rfl hl.1 rfl (lv_room (Nat.le_of_ble_eq_true rfl)) dX11_init_179 ⟨Nat.le_of_ble_eq_true rfl, Nat.le_of_ble_eq_true rfl⟩) hS (hw_AWsub (by decide) g1016 hS.1) (fun v H locs hp hz hk hS => ?_)
                              obtain ⟨G1038, r1041, rfl, hH, i1039, k1040, R1042, v1043⟩ := hp
                              have va := va_at.kept va (hk _ (hw_lt va) (hw_AWn k1019 (by decide) (hw_lt va)))
                              have v17 := va_at.kept v17 (hk _ (hw_lt v17) (hw_AWn k1020 (by decide) (hw_lt v17)))
                              have v39 := va_at.kept v39 (hk _ (hw_lt v39) (hw_AWn k1021 (by decide) (hw_lt v39)))
                              have v65 := va_at.kept v65 (hk _ (hw_lt v65) (hw_AWn k1022 (by decide) (hw_lt v65)))
                              have v80 := va_at.kept v80 (hk _ (hw_lt v80) (hw_AWn k1023 (by decide) (hw_lt v80)))
                              have v98 := va_at.kept v98 (hk _ (hw_lt v98) (hw_AWn k1024 (by decide) (hw_lt v98)))
                              have v118 := va_at.kept v118 (hk _ (hw_lt v118) (hw_AWn k1025 (by decide) (hw_lt v118)))
                              have v232 := va_at.kept v232 (hk _ (hw_lt v232) (hw_AWn k1018 (by decide) (hw_lt v232)))
                              have v982 := va_at.kept v982 (hk _ (hw_lt v982) (hw_AWn k1036 (by decide) (hw_lt v982)))
                              have m1044 : ∀ a, G1008 a ≠ 0 → G1008 a < 100 → G1038 a = G1008 a := fun a h0 h1 => i1039 a (hHo.lt h0) (fun e => by rw [e, k1011] at h1; exact absurd h1 (by decide))
                              have g1045 : ∀ x, x < s.heap.size → G1038 x = G x := fun x h9 => (i1039 x (Nat.lt_of_lt_of_le h9 hS0.1) (fun e => by have := w1015; omega)).trans (g1016 x h9)
                              have k1046 := hw_kg3 i1039 hHo k1011 k1018 (by decide) (by decide)
                              have k1047 := hw_kg3 i1039 hHo k1011 k1019 (by decide) (by decide)
                              have k1048 := hw_kg m1044 k1020 (by decide) (by decide)
                              have k1049 := hw_kg m1044 k1021 (by decide) (by decide)
                              have k1050 := hw_kg m1044 k1022 (by decide) (by decide)
                              have k1051 := hw_kg3 i1039 hHo k1011 k1023 (by decide) (by decide)
                              have k1052 := hw_kg3 i1039 hHo k1011 k1024 (by decide) (by decide)
                              have k1053 := hw_kg3 i1039 hHo k1011 k1025 (by decide) (by decide)
                              have k1054 := hw_kg m1044 k1026 (by decide) (by decide)
                              have k1055 := hw_kg m1044 k1027 (by decide) (by decide)
                              have k1056 := hw_kg m1044 k1028 (by decide) (by decide)
                              have R1057 := hw_RC_mono m1044 R1029
                              have R1058 := hw_RT_mono m1044 R1030
                              have R1059 := hw_RS_mono m1044 R1031
                              have q1060 := hw_qq m1044 q1032 (by decide) (by decide)
                              have q1061 := hw_qq m1044 q1033 (by decide) (by decide)
                              have q1062 := hw_qq m1044 q1034 (by decide) (by decide)
                              have q1063 := hw_qq m1044 q1035 (by decide) (by decide)
                              have k1064 := hw_kg m1044 k1036 (by decide) (by decide)
                              have R1065 := hw_RK_mono m1044 R1037
                              refine hw_aast (t := 7) (ci := 6) (q := (RX7, TX7, 3)) hx hb hK hH v232 rfl v1043 rfl (fun comp c0 h1 h2 => by cases h1.symm.trans h2; exact va_asg _ _) (hw_in (x := 1) (by decide) (by decide)) (fun _ => by rw [k1046]; exact ⟨_, rfl, hw_upq q1063 k1040⟩) hS (Or.inr w233) dX11_init_182 (fun H locs hH v232 oq hz hS => ?_)
                              have va := va_at.kept va (oq _ (hw_ne k1047 k1046 (by decide)))
                              have v17 := va_at.kept v17 (oq _ (hw_ne k1048 k1046 (by decide)))
                              have v39 := va_at.kept v39 (oq _ (hw_ne k1049 k1046 (by decide)))
                              have v65 := va_at.kept v65 (oq _ (hw_ne k1050 k1046 (by decide)))
                              have v80 := va_at.kept v80 (oq _ (hw_ne k1051 k1046 (by decide)))
                              have v98 := va_at.kept v98 (oq _ (hw_ne k1052 k1046 (by decide)))
                              have v118 := va_at.kept v118 (oq _ (hw_ne k1053 k1046 (by decide)))
                              have v982 := va_at.kept v982 (oq _ (hw_ne k1064 k1046 (by decide)))
                              have v1043 := va_at.kept v1043 (oq _ (hw_ne k1040 k1046 (by decide)))
                              have q1068 : ∀ j b, j < 4 → (va_up (va_up (fun _ => none) (0 : Int32).toNatClampNeg (some q949)) (1 : Int32).toNatClampNeg (some q1007)) j = some b → G1038 b = 6 := hw_upq q1063 k1040
                              refine lv_iinc (v := 2) (lv' := [(1, .int 2), (0, .ref h0)]) hx hb dX11_init_183 hl (k := 0) rfl (by rfl) (by decide) rfl (fun ls hl => ?_)
                              refine lv_goto (tgt := 165) hx hb dX11_init_186 (by decide) ?_
                              refine lv_iload_n hx hb dX11_init_165 rfl (lv_at hl 0 rfl) ?_
                              refine lv_iconst (v := 4) hx hb dX11_init_166 (by decide) ?_
                              refine lv_icmp_ge (tgt := 189) hx hb dX11_init_167 (by decide) (fun c1069 => ?_) (fun c1069 => ?_)
                              · exact absurd c1069 (by decide)
                              · refine lv_aload_n hx hb dX11_init_170 rfl (lv_at hl 1 rfl) ?_
                                refine hw_get hx hb fg_57_10 hK va rfl dX11_init_171 ?_
                                refine lv_iload_n hx hb dX11_init_174 rfl (lv_at hl 0 rfl) ?_
                                have hS0 := hS
                                refine hw_new hx hb 106 (ci := 6) (C := RX7) (T := TX7) (N := 3) hts (by decide +kernel) tyX7 tyX7_ok hown (hts (.classLink RX11 55 RX7) (by decide +kernel)) (hts (.instantiable RX7 3) (by decide +kernel)) (hts (.initialized RX7) (by decide +kernel)) hK hH hS rfl [.null, .int 0, .int 0] (fun j hj => by rcases (show j = 0 ∨ j = 1 ∨ j = 2 by omega) with rfl | rfl | rfl <;> rfl) (show hw_ok D.2.1 G1038 106 _ from ⟨_, rfl⟩) (Nat.le_of_ble_eq_true rfl) (Nat.le_of_ble_eq_true rfl) dX11_init_175 (fun q1070 G1071 H hH m1072 m1073 k1074 l1075 e1076 v1077 oq hz hS => ?_)
                                have n1080 : q949 ≠ q1070 := by have := hw_lt v982; omega
                                have n1081 : q1007 ≠ q1070 := by have := hw_lt v1043; omega
                                have w1078 : s.heap.size ≤ q1070 := by have := hS0.1; omega
                                have g1079 : ∀ x, x < s.heap.size → G1071 x = G x := fun x h9 => (l1075 x (Nat.lt_of_lt_of_le h9 hS0.1)).trans (g1045 x h9)
                                have va := va_at.kept va (oq _ (hw_lt va))
                                have v17 := va_at.kept v17 (oq _ (hw_lt v17))
                                have v39 := va_at.kept v39 (oq _ (hw_lt v39))
                                have v65 := va_at.kept v65 (oq _ (hw_lt v65))
                                have v80 := va_at.kept v80 (oq _ (hw_lt v80))
                                have v98 := va_at.kept v98 (oq _ (hw_lt v98))
                                have v118 := va_at.kept v118 (oq _ (hw_lt v118))
                                have v232 := va_at.kept v232 (oq _ (hw_lt v232))
                                have v982 := va_at.kept v982 (oq _ (hw_lt v982))
                                have v1043 := va_at.kept v1043 (oq _ (hw_lt v1043))
                                have k1082 := hw_kg2 m1073 k1046 (by decide)
                                have k1083 := hw_kg2 m1073 k1047 (by decide)
                                have k1084 := hw_kg m1072 k1048 (by decide) (by decide)
                                have k1085 := hw_kg m1072 k1049 (by decide) (by decide)
                                have k1086 := hw_kg m1072 k1050 (by decide) (by decide)
                                have k1087 := hw_kg2 m1073 k1051 (by decide)
                                have k1088 := hw_kg2 m1073 k1052 (by decide)
                                have k1089 := hw_kg2 m1073 k1053 (by decide)
                                have k1090 := hw_kg m1072 k1054 (by decide) (by decide)
                                have k1091 := hw_kg m1072 k1055 (by decide) (by decide)
                                have k1092 := hw_kg m1072 k1056 (by decide) (by decide)
                                have R1093 := hw_RC_mono m1072 R1057
                                have R1094 := hw_RT_mono m1072 R1058
                                have R1095 := hw_RS_mono m1072 R1059
                                have q1096 := hw_qq m1072 q1060 (by decide) (by decide)
                                have q1097 := hw_qq m1072 q1061 (by decide) (by decide)
                                have q1098 := hw_qq m1072 q1062 (by decide) (by decide)
                                have q1099 := hw_qq m1072 q1068 (by decide) (by decide)
                                have k1100 := hw_kg m1072 k1064 (by decide) (by decide)
                                have R1101 := hw_RK_mono m1072 R1065
                                have k1102 := hw_kg m1072 k1040 (by decide) (by decide)
                                have R1103 := hw_RK_mono m1072 R1042
                                refine lv_dup hx hb dX11_init_178 rfl ?_
                                have hHo := hH
                                have hS0 := hS
                                refine hw_cM (va_runIN (As := []) (rest := [.ref q1070, .int 2, .ref q225]) ⟨hx, hb, hml, hown, hts⟩ (k_X7_init l D G1071 q1070 _ k1074) ⟨va_cnB 0 hts gX11_init_X7_init_n61 rfl rfl rfl (hw_en61 hST.ex) (hts (.initialized RX7) (by decide +kernel)) (by decide +kernel) ⟨Nat.le_of_ble_eq_true rfl, Nat.le_of_ble_eq_true rfl⟩, rfl, hts (.instanceMethod yX7_init) (by decide +kernel)⟩ (hw_pS hH hK hST hS (by decide) (hw_hG g1079) v1077) rfl rfl hl.1 rfl (lv_room (Nat.le_of_ble_eq_true rfl)) dX11_init_179 ⟨Nat.le_of_ble_eq_true rfl, Nat.le_of_ble_eq_true rfl⟩) hS (hw_AWsub (by decide) g1079 hS.1) (fun v H locs hp hz hk hS => ?_)
                                obtain ⟨G1104, r1107, rfl, hH, i1105, k1106, R1108, v1109⟩ := hp
                                have va := va_at.kept va (hk _ (hw_lt va) (hw_AWn k1083 (by decide) (hw_lt va)))
                                have v17 := va_at.kept v17 (hk _ (hw_lt v17) (hw_AWn k1084 (by decide) (hw_lt v17)))
                                have v39 := va_at.kept v39 (hk _ (hw_lt v39) (hw_AWn k1085 (by decide) (hw_lt v39)))
                                have v65 := va_at.kept v65 (hk _ (hw_lt v65) (hw_AWn k1086 (by decide) (hw_lt v65)))
                                have v80 := va_at.kept v80 (hk _ (hw_lt v80) (hw_AWn k1087 (by decide) (hw_lt v80)))
                                have v98 := va_at.kept v98 (hk _ (hw_lt v98) (hw_AWn k1088 (by decide) (hw_lt v98)))
                                have v118 := va_at.kept v118 (hk _ (hw_lt v118) (hw_AWn k1089 (by decide) (hw_lt v118)))
                                have v232 := va_at.kept v232 (hk _ (hw_lt v232) (hw_AWn k1082 (by decide) (hw_lt v232)))
                                have v982 := va_at.kept v982 (hk _ (hw_lt v982) (hw_AWn k1100 (by decide) (hw_lt v982)))
                                have v1043 := va_at.kept v1043 (hk _ (hw_lt v1043) (hw_AWn k1102 (by decide) (hw_lt v1043)))
                                have m1110 : ∀ a, G1071 a ≠ 0 → G1071 a < 100 → G1104 a = G1071 a := fun a h0 h1 => i1105 a (hHo.lt h0) (fun e => by rw [e, k1074] at h1; exact absurd h1 (by decide))
                                have g1111 : ∀ x, x < s.heap.size → G1104 x = G x := fun x h9 => (i1105 x (Nat.lt_of_lt_of_le h9 hS0.1) (fun e => by have := w1078; omega)).trans (g1079 x h9)
                                have k1112 := hw_kg3 i1105 hHo k1074 k1082 (by decide) (by decide)
                                have k1113 := hw_kg3 i1105 hHo k1074 k1083 (by decide) (by decide)
                                have k1114 := hw_kg m1110 k1084 (by decide) (by decide)
                                have k1115 := hw_kg m1110 k1085 (by decide) (by decide)
                                have k1116 := hw_kg m1110 k1086 (by decide) (by decide)
                                have k1117 := hw_kg3 i1105 hHo k1074 k1087 (by decide) (by decide)
                                have k1118 := hw_kg3 i1105 hHo k1074 k1088 (by decide) (by decide)
                                have k1119 := hw_kg3 i1105 hHo k1074 k1089 (by decide) (by decide)
                                have k1120 := hw_kg m1110 k1090 (by decide) (by decide)
                                have k1121 := hw_kg m1110 k1091 (by decide) (by decide)
                                have k1122 := hw_kg m1110 k1092 (by decide) (by decide)
                                have R1123 := hw_RC_mono m1110 R1093
                                have R1124 := hw_RT_mono m1110 R1094
                                have R1125 := hw_RS_mono m1110 R1095
                                have q1126 := hw_qq m1110 q1096 (by decide) (by decide)
                                have q1127 := hw_qq m1110 q1097 (by decide) (by decide)
                                have q1128 := hw_qq m1110 q1098 (by decide) (by decide)
                                have q1129 := hw_qq m1110 q1099 (by decide) (by decide)
                                have k1130 := hw_kg m1110 k1100 (by decide) (by decide)
                                have R1131 := hw_RK_mono m1110 R1101
                                have k1132 := hw_kg m1110 k1102 (by decide) (by decide)
                                have R1133 := hw_RK_mono m1110 R1103
                                refine hw_aast (t := 7) (ci := 6) (q := (RX7, TX7, 3)) hx hb hK hH v232 rfl v1109 rfl (fun comp c0 h1 h2 => by cases h1.symm.trans h2; exact va_asg _ _) (hw_in (x := 2) (by decide) (by decide)) (fun _ => by rw [k1112]; exact ⟨_, rfl, hw_upq q1129 k1106⟩) hS (Or.inr w233) dX11_init_182 (fun H locs hH v232 oq hz hS => ?_)
                                have va := va_at.kept va (oq _ (hw_ne k1113 k1112 (by decide)))
                                have v17 := va_at.kept v17 (oq _ (hw_ne k1114 k1112 (by decide)))
                                have v39 := va_at.kept v39 (oq _ (hw_ne k1115 k1112 (by decide)))
                                have v65 := va_at.kept v65 (oq _ (hw_ne k1116 k1112 (by decide)))
                                have v80 := va_at.kept v80 (oq _ (hw_ne k1117 k1112 (by decide)))
                                have v98 := va_at.kept v98 (oq _ (hw_ne k1118 k1112 (by decide)))
                                have v118 := va_at.kept v118 (oq _ (hw_ne k1119 k1112 (by decide)))
                                have v982 := va_at.kept v982 (oq _ (hw_ne k1130 k1112 (by decide)))
                                have v1043 := va_at.kept v1043 (oq _ (hw_ne k1132 k1112 (by decide)))
                                have v1109 := va_at.kept v1109 (oq _ (hw_ne k1106 k1112 (by decide)))
                                have q1136 : ∀ j b, j < 4 → (va_up (va_up (va_up (fun _ => none) (0 : Int32).toNatClampNeg (some q949)) (1 : Int32).toNatClampNeg (some q1007)) (2 : Int32).toNatClampNeg (some q1070)) j = some b → G1104 b = 6 := hw_upq q1129 k1106
                                refine lv_iinc (v := 3) (lv' := [(1, .int 3), (0, .ref h0)]) hx hb dX11_init_183 hl (k := 0) rfl (by rfl) (by decide) rfl (fun ls hl => ?_)
                                refine lv_goto (tgt := 165) hx hb dX11_init_186 (by decide) ?_
                                refine lv_iload_n hx hb dX11_init_165 rfl (lv_at hl 0 rfl) ?_
                                refine lv_iconst (v := 4) hx hb dX11_init_166 (by decide) ?_
                                refine lv_icmp_ge (tgt := 189) hx hb dX11_init_167 (by decide) (fun c1137 => ?_) (fun c1137 => ?_)
                                · exact absurd c1137 (by decide)
                                · refine lv_aload_n hx hb dX11_init_170 rfl (lv_at hl 1 rfl) ?_
                                  refine hw_get hx hb fg_57_10 hK va rfl dX11_init_171 ?_
                                  refine lv_iload_n hx hb dX11_init_174 rfl (lv_at hl 0 rfl) ?_
                                  have hS0 := hS
                                  refine hw_new hx hb 106 (ci := 6) (C := RX7) (T := TX7) (N := 3) hts (by decide +kernel) tyX7 tyX7_ok hown (hts (.classLink RX11 55 RX7) (by decide +kernel)) (hts (.instantiable RX7 3) (by decide +kernel)) (hts (.initialized RX7) (by decide +kernel)) hK hH hS rfl [.null, .int 0, .int 0] (fun j hj => by rcases (show j = 0 ∨ j = 1 ∨ j = 2 by omega) with rfl | rfl | rfl <;> rfl) (show hw_ok D.2.1 G1104 106 _ from ⟨_, rfl⟩) (Nat.le_of_ble_eq_true rfl) (Nat.le_of_ble_eq_true rfl) dX11_init_175 (fun q1138 G1139 H hH m1140 m1141 k1142 l1143 e1144 v1145 oq hz hS => ?_)
                                  have n1148 : q949 ≠ q1138 := by have := hw_lt v982; omega
                                  have n1149 : q1007 ≠ q1138 := by have := hw_lt v1043; omega
                                  have n1150 : q1070 ≠ q1138 := by have := hw_lt v1109; omega
                                  have w1146 : s.heap.size ≤ q1138 := by have := hS0.1; omega
                                  have g1147 : ∀ x, x < s.heap.size → G1139 x = G x := fun x h9 => (l1143 x (Nat.lt_of_lt_of_le h9 hS0.1)).trans (g1111 x h9)
                                  have va := va_at.kept va (oq _ (hw_lt va))
                                  have v17 := va_at.kept v17 (oq _ (hw_lt v17))
                                  have v39 := va_at.kept v39 (oq _ (hw_lt v39))
                                  have v65 := va_at.kept v65 (oq _ (hw_lt v65))
                                  have v80 := va_at.kept v80 (oq _ (hw_lt v80))
                                  have v98 := va_at.kept v98 (oq _ (hw_lt v98))
                                  have v118 := va_at.kept v118 (oq _ (hw_lt v118))
                                  have v232 := va_at.kept v232 (oq _ (hw_lt v232))
                                  have v982 := va_at.kept v982 (oq _ (hw_lt v982))
                                  have v1043 := va_at.kept v1043 (oq _ (hw_lt v1043))
                                  have v1109 := va_at.kept v1109 (oq _ (hw_lt v1109))
                                  have k1151 := hw_kg2 m1141 k1112 (by decide)
                                  have k1152 := hw_kg2 m1141 k1113 (by decide)
                                  have k1153 := hw_kg m1140 k1114 (by decide) (by decide)
                                  have k1154 := hw_kg m1140 k1115 (by decide) (by decide)
                                  have k1155 := hw_kg m1140 k1116 (by decide) (by decide)
                                  have k1156 := hw_kg2 m1141 k1117 (by decide)
                                  have k1157 := hw_kg2 m1141 k1118 (by decide)
                                  have k1158 := hw_kg2 m1141 k1119 (by decide)
                                  have k1159 := hw_kg m1140 k1120 (by decide) (by decide)
                                  have k1160 := hw_kg m1140 k1121 (by decide) (by decide)
                                  have k1161 := hw_kg m1140 k1122 (by decide) (by decide)
                                  have R1162 := hw_RC_mono m1140 R1123
                                  have R1163 := hw_RT_mono m1140 R1124
                                  have R1164 := hw_RS_mono m1140 R1125
                                  have q1165 := hw_qq m1140 q1126 (by decide) (by decide)
                                  have q1166 := hw_qq m1140 q1127 (by decide) (by decide)
                                  have q1167 := hw_qq m1140 q1128 (by decide) (by decide)
                                  have q1168 := hw_qq m1140 q1136 (by decide) (by decide)
                                  have k1169 := hw_kg m1140 k1130 (by decide) (by decide)
                                  have R1170 := hw_RK_mono m1140 R1131
                                  have k1171 := hw_kg m1140 k1132 (by decide) (by decide)
                                  have R1172 := hw_RK_mono m1140 R1133
                                  have k1173 := hw_kg m1140 k1106 (by decide) (by decide)
                                  have R1174 := hw_RK_mono m1140 R1108
                                  refine lv_dup hx hb dX11_init_178 rfl ?_
                                  have hHo := hH
                                  have hS0 := hS
                                  refine hw_cM (va_runIN (As := []) (rest := [.ref q1138, .int 3, .ref q225]) ⟨hx, hb, hml, hown, hts⟩ (k_X7_init l D G1139 q1138 _ k1142) ⟨va_cnB 0 hts gX11_init_X7_init_n61 rfl rfl rfl (hw_en61 hST.ex) (hts (.initialized RX7) (by decide +kernel)) (by decide +kernel) ⟨Nat.le_of_ble_eq_true rfl, Nat.le_of_ble_eq_true rfl⟩, rfl, hts (.instanceMethod yX7_init) (by decide +kernel)⟩ (hw_pS hH hK hST hS (by decide) (hw_hG g1147) v1145) rfl rfl hl.1 rfl (lv_room (Nat.le_of_ble_eq_true rfl)) dX11_init_179 ⟨Nat.le_of_ble_eq_true rfl, Nat.le_of_ble_eq_true rfl⟩) hS (hw_AWsub (by decide) g1147 hS.1) (fun v H locs hp hz hk hS => ?_)
                                  obtain ⟨G1175, r1178, rfl, hH, i1176, k1177, R1179, v1180⟩ := hp
                                  have va := va_at.kept va (hk _ (hw_lt va) (hw_AWn k1152 (by decide) (hw_lt va)))
                                  have v17 := va_at.kept v17 (hk _ (hw_lt v17) (hw_AWn k1153 (by decide) (hw_lt v17)))
                                  have v39 := va_at.kept v39 (hk _ (hw_lt v39) (hw_AWn k1154 (by decide) (hw_lt v39)))
                                  have v65 := va_at.kept v65 (hk _ (hw_lt v65) (hw_AWn k1155 (by decide) (hw_lt v65)))
                                  have v80 := va_at.kept v80 (hk _ (hw_lt v80) (hw_AWn k1156 (by decide) (hw_lt v80)))
                                  have v98 := va_at.kept v98 (hk _ (hw_lt v98) (hw_AWn k1157 (by decide) (hw_lt v98)))
                                  have v118 := va_at.kept v118 (hk _ (hw_lt v118) (hw_AWn k1158 (by decide) (hw_lt v118)))
                                  have v232 := va_at.kept v232 (hk _ (hw_lt v232) (hw_AWn k1151 (by decide) (hw_lt v232)))
                                  have v982 := va_at.kept v982 (hk _ (hw_lt v982) (hw_AWn k1169 (by decide) (hw_lt v982)))
                                  have v1043 := va_at.kept v1043 (hk _ (hw_lt v1043) (hw_AWn k1171 (by decide) (hw_lt v1043)))
                                  have v1109 := va_at.kept v1109 (hk _ (hw_lt v1109) (hw_AWn k1173 (by decide) (hw_lt v1109)))
                                  have m1181 : ∀ a, G1139 a ≠ 0 → G1139 a < 100 → G1175 a = G1139 a := fun a h0 h1 => i1176 a (hHo.lt h0) (fun e => by rw [e, k1142] at h1; exact absurd h1 (by decide))
                                  have g1182 : ∀ x, x < s.heap.size → G1175 x = G x := fun x h9 => (i1176 x (Nat.lt_of_lt_of_le h9 hS0.1) (fun e => by have := w1146; omega)).trans (g1147 x h9)
                                  have k1183 := hw_kg3 i1176 hHo k1142 k1151 (by decide) (by decide)
                                  have k1184 := hw_kg3 i1176 hHo k1142 k1152 (by decide) (by decide)
                                  have k1185 := hw_kg m1181 k1153 (by decide) (by decide)
                                  have k1186 := hw_kg m1181 k1154 (by decide) (by decide)
                                  have k1187 := hw_kg m1181 k1155 (by decide) (by decide)
                                  have k1188 := hw_kg3 i1176 hHo k1142 k1156 (by decide) (by decide)
                                  have k1189 := hw_kg3 i1176 hHo k1142 k1157 (by decide) (by decide)
                                  have k1190 := hw_kg3 i1176 hHo k1142 k1158 (by decide) (by decide)
                                  have k1191 := hw_kg m1181 k1159 (by decide) (by decide)
                                  have k1192 := hw_kg m1181 k1160 (by decide) (by decide)
                                  have k1193 := hw_kg m1181 k1161 (by decide) (by decide)
                                  have R1194 := hw_RC_mono m1181 R1162
                                  have R1195 := hw_RT_mono m1181 R1163
                                  have R1196 := hw_RS_mono m1181 R1164
                                  have q1197 := hw_qq m1181 q1165 (by decide) (by decide)
                                  have q1198 := hw_qq m1181 q1166 (by decide) (by decide)
                                  have q1199 := hw_qq m1181 q1167 (by decide) (by decide)
                                  have q1200 := hw_qq m1181 q1168 (by decide) (by decide)
                                  have k1201 := hw_kg m1181 k1169 (by decide) (by decide)
                                  have R1202 := hw_RK_mono m1181 R1170
                                  have k1203 := hw_kg m1181 k1171 (by decide) (by decide)
                                  have R1204 := hw_RK_mono m1181 R1172
                                  have k1205 := hw_kg m1181 k1173 (by decide) (by decide)
                                  have R1206 := hw_RK_mono m1181 R1174
                                  refine hw_aast (t := 7) (ci := 6) (q := (RX7, TX7, 3)) hx hb hK hH v232 rfl v1180 rfl (fun comp c0 h1 h2 => by cases h1.symm.trans h2; exact va_asg _ _) (hw_in (x := 3) (by decide) (by decide)) (fun _ => by rw [k1183]; exact ⟨_, rfl, hw_upq q1200 k1177⟩) hS (Or.inr w233) dX11_init_182 (fun H locs hH v232 oq hz hS => ?_)
                                  have va := va_at.kept va (oq _ (hw_ne k1184 k1183 (by decide)))
                                  have v17 := va_at.kept v17 (oq _ (hw_ne k1185 k1183 (by decide)))
                                  have v39 := va_at.kept v39 (oq _ (hw_ne k1186 k1183 (by decide)))
                                  have v65 := va_at.kept v65 (oq _ (hw_ne k1187 k1183 (by decide)))
                                  have v80 := va_at.kept v80 (oq _ (hw_ne k1188 k1183 (by decide)))
                                  have v98 := va_at.kept v98 (oq _ (hw_ne k1189 k1183 (by decide)))
                                  have v118 := va_at.kept v118 (oq _ (hw_ne k1190 k1183 (by decide)))
                                  have v982 := va_at.kept v982 (oq _ (hw_ne k1201 k1183 (by decide)))
                                  have v1043 := va_at.kept v1043 (oq _ (hw_ne k1203 k1183 (by decide)))
                                  have v1109 := va_at.kept v1109 (oq _ (hw_ne k1205 k1183 (by decide)))
                                  have v1180 := va_at.kept v1180 (oq _ (hw_ne k1177 k1183 (by decide)))
                                  have q1209 : ∀ j b, j < 4 → (va_up (va_up (va_up (va_up (fun _ => none) (0 : Int32).toNatClampNeg (some q949)) (1 : Int32).toNatClampNeg (some q1007)) (2 : Int32).toNatClampNeg (some q1070)) (3 : Int32).toNatClampNeg (some q1138)) j = some b → G1175 b = 6 := hw_upq q1200 k1177
                                  refine lv_iinc (v := 4) (lv' := [(1, .int 4), (0, .ref h0)]) hx hb dX11_init_183 hl (k := 0) rfl (by rfl) (by decide) rfl (fun ls hl => ?_)
                                  refine lv_goto (tgt := 165) hx hb dX11_init_186 (by decide) ?_
                                  refine lv_iload_n hx hb dX11_init_165 rfl (lv_at hl 0 rfl) ?_
                                  refine lv_iconst (v := 4) hx hb dX11_init_166 (by decide) ?_
                                  refine lv_icmp_ge (tgt := 189) hx hb dX11_init_167 (by decide) (fun c1210 => ?_) (fun c1210 => ?_)
                                  · have hHo := hH
                                    obtain ⟨hH, hm9⟩ := hw_HT.rekind (k := 27) hH (by rw [k1188]; decide) v80 (show hw_AQn D.2.1 5 8 G1175 7 _ from ⟨_, rfl, fun j hj => by rcases (show j = 0 ∨ j = 1 ∨ j = 2 ∨ j = 3 ∨ j = 4 ∨ j = 5 ∨ j = 6 ∨ j = 7 by omega) with rfl | rfl | rfl | rfl | rfl | rfl | rfl | rfl <;> first | exact ⟨q253, rfl, q1197 0 _ (by decide) rfl⟩ | exact ⟨q311, rfl, q1197 1 _ (by decide) rfl⟩ | exact ⟨q369, rfl, q1197 2 _ (by decide) rfl⟩ | exact ⟨q427, rfl, q1197 3 _ (by decide) rfl⟩ | exact ⟨q485, rfl, q1197 4 _ (by decide) rfl⟩ | exact ⟨q543, rfl, q1197 5 _ (by decide) rfl⟩ | exact ⟨q601, rfl, q1197 6 _ (by decide) rfl⟩ | exact ⟨q659, rfl, q1197 7 _ (by decide) rfl⟩⟩)
                                    obtain ⟨G1211, e1212⟩ : ∃ z, z = va_up G1175 q73 27 := ⟨_, rfl⟩
                                    rw [← e1212] at hH hm9
                                    have i1213 : ∀ x, x < H.size → x ≠ q73 → G1211 x = G1175 x := fun x _ h9 => by rw [e1212]; exact va_up_ne _ _ h9
                                    have k1214 : G1211 q73 = 27 := by rw [e1212]; exact va_up_self _ _ _
                                    have g1215 : ∀ x, x < s.heap.size → G1211 x = G x := fun x h9 => by rw [e1212, va_up_ne _ _ (fun e9 => by have := w81; omega)]; exact g1182 x h9
                                    have k1216 := hw_kg3 i1213 hHo k1188 k1184 (by decide) (by decide)
                                    have k1217 := hw_kg hm9 k1185 (by decide) (by decide)
                                    have k1218 := hw_kg hm9 k1186 (by decide) (by decide)
                                    have k1219 := hw_kg hm9 k1187 (by decide) (by decide)
                                    have k1220 := hw_kg3 i1213 hHo k1188 k1189 (by decide) (by decide)
                                    have k1221 := hw_kg3 i1213 hHo k1188 k1190 (by decide) (by decide)
                                    have k1222 := hw_kg hm9 k1191 (by decide) (by decide)
                                    have k1223 := hw_kg hm9 k1192 (by decide) (by decide)
                                    have k1224 := hw_kg hm9 k1193 (by decide) (by decide)
                                    have k1225 := hw_kg3 i1213 hHo k1188 k1183 (by decide) (by decide)
                                    have R1226 := hw_RC_mono hm9 R1194
                                    have R1227 := hw_RT_mono hm9 R1195
                                    have R1228 := hw_RS_mono hm9 R1196
                                    have q1229 := hw_qq hm9 q1198 (by decide) (by decide)
                                    have q1230 := hw_qq hm9 q1199 (by decide) (by decide)
                                    have q1231 := hw_qq hm9 q1209 (by decide) (by decide)
                                    have k1232 := hw_kg hm9 k1201 (by decide) (by decide)
                                    have R1233 := hw_RK_mono hm9 R1202
                                    have k1234 := hw_kg hm9 k1203 (by decide) (by decide)
                                    have R1235 := hw_RK_mono hm9 R1204
                                    have k1236 := hw_kg hm9 k1205 (by decide) (by decide)
                                    have R1237 := hw_RK_mono hm9 R1206
                                    have k1238 := hw_kg hm9 k1177 (by decide) (by decide)
                                    have R1239 := hw_RK_mono hm9 R1179
                                    have hHo := hH
                                    obtain ⟨hH, hm9⟩ := hw_HT.rekind (k := 28) hH (by rw [k1220]; decide) v98 (show hw_AQn D.2.1 5 2 G1211 7 _ from ⟨_, rfl, fun j hj => by rcases (show j = 0 ∨ j = 1 by omega) with rfl | rfl <;> first | exact ⟨q718, rfl, q1229 0 _ (by decide) rfl⟩ | exact ⟨q833, rfl, q1229 1 _ (by decide) rfl⟩⟩)
                                    obtain ⟨G1240, e1241⟩ : ∃ z, z = va_up G1211 q91 28 := ⟨_, rfl⟩
                                    rw [← e1241] at hH hm9
                                    have i1242 : ∀ x, x < H.size → x ≠ q91 → G1240 x = G1211 x := fun x _ h9 => by rw [e1241]; exact va_up_ne _ _ h9
                                    have k1243 : G1240 q91 = 28 := by rw [e1241]; exact va_up_self _ _ _
                                    have g1244 : ∀ x, x < s.heap.size → G1240 x = G x := fun x h9 => by rw [e1241, va_up_ne _ _ (fun e9 => by have := w99; omega)]; exact g1215 x h9
                                    have k1245 := hw_kg3 i1242 hHo k1220 k1216 (by decide) (by decide)
                                    have k1246 := hw_kg hm9 k1217 (by decide) (by decide)
                                    have k1247 := hw_kg hm9 k1218 (by decide) (by decide)
                                    have k1248 := hw_kg hm9 k1219 (by decide) (by decide)
                                    have k1249 := hw_kg3 i1242 hHo k1220 k1221 (by decide) (by decide)
                                    have k1250 := hw_kg hm9 k1222 (by decide) (by decide)
                                    have k1251 := hw_kg hm9 k1223 (by decide) (by decide)
                                    have k1252 := hw_kg hm9 k1224 (by decide) (by decide)
                                    have k1253 := hw_kg3 i1242 hHo k1220 k1225 (by decide) (by decide)
                                    have k1254 := hw_kg hm9 k1214 (by decide) (by decide)
                                    have R1255 := hw_RC_mono hm9 R1226
                                    have R1256 := hw_RT_mono hm9 R1227
                                    have R1257 := hw_RS_mono hm9 R1228
                                    have q1258 := hw_qq hm9 q1230 (by decide) (by decide)
                                    have q1259 := hw_qq hm9 q1231 (by decide) (by decide)
                                    have k1260 := hw_kg hm9 k1232 (by decide) (by decide)
                                    have R1261 := hw_RK_mono hm9 R1233
                                    have k1262 := hw_kg hm9 k1234 (by decide) (by decide)
                                    have R1263 := hw_RK_mono hm9 R1235
                                    have k1264 := hw_kg hm9 k1236 (by decide) (by decide)
                                    have R1265 := hw_RK_mono hm9 R1237
                                    have k1266 := hw_kg hm9 k1238 (by decide) (by decide)
                                    have R1267 := hw_RK_mono hm9 R1239
                                    have hHo := hH
                                    obtain ⟨hH, hm9⟩ := hw_HT.rekind (k := 29) hH (by rw [k1249]; decide) v118 (show hw_AQn D.2.1 6 2 G1240 8 _ from ⟨_, rfl, fun j hj => by rcases (show j = 0 ∨ j = 1 by omega) with rfl | rfl <;> first | exact ⟨q775, rfl, q1258 0 _ (by decide) rfl⟩ | exact ⟨q890, rfl, q1258 1 _ (by decide) rfl⟩⟩)
                                    obtain ⟨G1268, e1269⟩ : ∃ z, z = va_up G1240 q111 29 := ⟨_, rfl⟩
                                    rw [← e1269] at hH hm9
                                    have i1270 : ∀ x, x < H.size → x ≠ q111 → G1268 x = G1240 x := fun x _ h9 => by rw [e1269]; exact va_up_ne _ _ h9
                                    have k1271 : G1268 q111 = 29 := by rw [e1269]; exact va_up_self _ _ _
                                    have g1272 : ∀ x, x < s.heap.size → G1268 x = G x := fun x h9 => by rw [e1269, va_up_ne _ _ (fun e9 => by have := w119; omega)]; exact g1244 x h9
                                    have k1273 := hw_kg3 i1270 hHo k1249 k1245 (by decide) (by decide)
                                    have k1274 := hw_kg hm9 k1246 (by decide) (by decide)
                                    have k1275 := hw_kg hm9 k1247 (by decide) (by decide)
                                    have k1276 := hw_kg hm9 k1248 (by decide) (by decide)
                                    have k1277 := hw_kg hm9 k1250 (by decide) (by decide)
                                    have k1278 := hw_kg hm9 k1251 (by decide) (by decide)
                                    have k1279 := hw_kg hm9 k1252 (by decide) (by decide)
                                    have k1280 := hw_kg3 i1270 hHo k1249 k1253 (by decide) (by decide)
                                    have k1281 := hw_kg hm9 k1254 (by decide) (by decide)
                                    have k1282 := hw_kg hm9 k1243 (by decide) (by decide)
                                    have R1283 := hw_RC_mono hm9 R1255
                                    have R1284 := hw_RT_mono hm9 R1256
                                    have R1285 := hw_RS_mono hm9 R1257
                                    have q1286 := hw_qq hm9 q1259 (by decide) (by decide)
                                    have k1287 := hw_kg hm9 k1260 (by decide) (by decide)
                                    have R1288 := hw_RK_mono hm9 R1261
                                    have k1289 := hw_kg hm9 k1262 (by decide) (by decide)
                                    have R1290 := hw_RK_mono hm9 R1263
                                    have k1291 := hw_kg hm9 k1264 (by decide) (by decide)
                                    have R1292 := hw_RK_mono hm9 R1265
                                    have k1293 := hw_kg hm9 k1266 (by decide) (by decide)
                                    have R1294 := hw_RK_mono hm9 R1267
                                    have hHo := hH
                                    obtain ⟨hH, hm9⟩ := hw_HT.rekind (k := 32) hH (by rw [k1280]; decide) v232 (show hw_AQn D.2.1 7 4 G1268 6 _ from ⟨_, rfl, fun j hj => by rcases (show j = 0 ∨ j = 1 ∨ j = 2 ∨ j = 3 by omega) with rfl | rfl | rfl | rfl <;> first | exact ⟨q949, rfl, q1286 0 _ (by decide) rfl⟩ | exact ⟨q1007, rfl, q1286 1 _ (by decide) rfl⟩ | exact ⟨q1070, rfl, q1286 2 _ (by decide) rfl⟩ | exact ⟨q1138, rfl, q1286 3 _ (by decide) rfl⟩⟩)
                                    obtain ⟨G1295, e1296⟩ : ∃ z, z = va_up G1268 q225 32 := ⟨_, rfl⟩
                                    rw [← e1296] at hH hm9
                                    have i1297 : ∀ x, x < H.size → x ≠ q225 → G1295 x = G1268 x := fun x _ h9 => by rw [e1296]; exact va_up_ne _ _ h9
                                    have k1298 : G1295 q225 = 32 := by rw [e1296]; exact va_up_self _ _ _
                                    have g1299 : ∀ x, x < s.heap.size → G1295 x = G x := fun x h9 => by rw [e1296, va_up_ne _ _ (fun e9 => by have := w233; omega)]; exact g1272 x h9
                                    have k1300 := hw_kg3 i1297 hHo k1280 k1273 (by decide) (by decide)
                                    have k1301 := hw_kg hm9 k1274 (by decide) (by decide)
                                    have k1302 := hw_kg hm9 k1275 (by decide) (by decide)
                                    have k1303 := hw_kg hm9 k1276 (by decide) (by decide)
                                    have k1304 := hw_kg hm9 k1277 (by decide) (by decide)
                                    have k1305 := hw_kg hm9 k1278 (by decide) (by decide)
                                    have k1306 := hw_kg hm9 k1279 (by decide) (by decide)
                                    have k1307 := hw_kg hm9 k1281 (by decide) (by decide)
                                    have k1308 := hw_kg hm9 k1282 (by decide) (by decide)
                                    have k1309 := hw_kg hm9 k1271 (by decide) (by decide)
                                    have R1310 := hw_RC_mono hm9 R1283
                                    have R1311 := hw_RT_mono hm9 R1284
                                    have R1312 := hw_RS_mono hm9 R1285
                                    have k1313 := hw_kg hm9 k1287 (by decide) (by decide)
                                    have R1314 := hw_RK_mono hm9 R1288
                                    have k1315 := hw_kg hm9 k1289 (by decide) (by decide)
                                    have R1316 := hw_RK_mono hm9 R1290
                                    have k1317 := hw_kg hm9 k1291 (by decide) (by decide)
                                    have R1318 := hw_RK_mono hm9 R1292
                                    have k1319 := hw_kg hm9 k1293 (by decide) (by decide)
                                    have R1320 := hw_RK_mono hm9 R1294
                                    have R1321 : hw_RX G1295 (fun i9 => [q1, q21, q45, q73, 0, 0, q91, q111, 0, q133, q156, 0, q180, q225].getD i9 0) := ⟨k1301, k1302, k1303, k1307, k1308, k1309, k1304, k1305, k1306, k1298⟩
                                    obtain ⟨hH9, hm9⟩ := hw_HT.rekind (k := 1) hH (by rw [k1300]; decide) va (show hw_OX G1295 _ from ⟨(fun i9 => [q1, q21, q45, q73, 0, 0, q91, q111, 0, q133, q156, 0, q180, q225].getD i9 0), 0, 0, 0, 0, rfl, R1321, ⟨by decide, by decide⟩⟩)
                                    refine W.widen (k := 92) (n := 3584) (by first | decide | omega) (by first | decide | omega) ?_
                                    exact hw_vretM hx hb hr hlocks hQ hS ⟨(va_up G1295 h0 1), (fun i9 => [q1, q21, q45, q73, 0, 0, q91, q111, 0, q133, q156, 0, q180, q225].getD i9 0), r15, r37, r63, (va_up (va_up (va_up (va_up (fun _ => none) (0 : Int32).toNatClampNeg (some q949)) (1 : Int32).toNatClampNeg (some q1007)) (2 : Int32).toNatClampNeg (some q1070)) (3 : Int32).toNatClampNeg (some q1138)), rfl, hH9, (fun q9 h9 n9 => (va_up_ne _ _ n9).trans (g1299 q9 h9)), (va_up_self _ _ _), (hw_RX_mono hm9 R1321), va, (hw_RC_mono hm9 R1310), v17, (hw_RT_mono hm9 R1311), v39, (hw_RS_mono hm9 R1312), v65, v232, ⟨(by
                                        intro i j hi hj h9
                                        rcases (show i = 0 ∨ i = 1 ∨ i = 2 ∨ i = 3 by omega) with rfl | rfl | rfl | rfl <;> rcases (show j = 0 ∨ j = 1 ∨ j = 2 ∨ j = 3 by omega) with rfl | rfl | rfl | rfl
                                        · rfl
                                        · exact absurd (Option.some.inj (show some q949 = some q1007 from h9)) n1017
                                        · exact absurd (Option.some.inj (show some q949 = some q1070 from h9)) n1080
                                        · exact absurd (Option.some.inj (show some q949 = some q1138 from h9)) n1148
                                        · exact absurd (Option.some.inj (show some q1007 = some q949 from h9)).symm n1017
                                        · rfl
                                        · exact absurd (Option.some.inj (show some q1007 = some q1070 from h9)) n1081
                                        · exact absurd (Option.some.inj (show some q1007 = some q1138 from h9)) n1149
                                        · exact absurd (Option.some.inj (show some q1070 = some q949 from h9)).symm n1080
                                        · exact absurd (Option.some.inj (show some q1070 = some q1007 from h9)).symm n1081
                                        · rfl
                                        · exact absurd (Option.some.inj (show some q1070 = some q1138 from h9)) n1150
                                        · exact absurd (Option.some.inj (show some q1138 = some q949 from h9)).symm n1148
                                        · exact absurd (Option.some.inj (show some q1138 = some q1007 from h9)).symm n1149
                                        · exact absurd (Option.some.inj (show some q1138 = some q1070 from h9)).symm n1150
                                        · rfl), (fun j hj => by
                                        rcases (show j = 0 ∨ j = 1 ∨ j = 2 ∨ j = 3 by omega) with rfl | rfl | rfl | rfl
                                        · exact ⟨q949, r980, rfl, hw_kg hm9 k1313 (by decide) (by decide), hw_RK_mono hm9 R1314, v982⟩
                                        · exact ⟨q1007, r1041, rfl, hw_kg hm9 k1315 (by decide) (by decide), hw_RK_mono hm9 R1316, v1043⟩
                                        · exact ⟨q1070, r1107, rfl, hw_kg hm9 k1317 (by decide) (by decide), hw_RK_mono hm9 R1318, v1109⟩
                                        · exact ⟨q1138, r1178, rfl, hw_kg hm9 k1319 (by decide) (by decide), hw_RK_mono hm9 R1320, v1180⟩)⟩⟩ dX11_init_189
                                  · exact absurd c1210 (by decide)
                        · exact absurd c947 (by decide)
                  · exact absurd c716 (by decide)
