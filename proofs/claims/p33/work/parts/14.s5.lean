set_option maxHeartbeats 4000000 in
set_option maxRecDepth 100000 in
theorem k_X11_isBroken (l : Launch) (D : hw_D) (G : Nat → Nat) (h0 : Nat) (p1 : Int32) (sz : Nat) (G0 : G h0 = 1) : Met l yX11_isBroken wsX11_isBroken ({ frames := 1, cells := 0, slots := 0, locals := 21 } : Room) (hw_PC D G [.ref h0, .int p1] sz (fun H => True)) (hw_QR (fun v => (v = .int 1) ∨ (v = .int 0))) 0 0 (fun _ => False) := by
  refine hw_met (cc := cX11_isBroken) (maxL := 2) (ret := (some .boolean)) (plainFor_of_name (by decide)) rfl (Nat.le_of_ble_eq_true rfl) ?_
  intro p e s m args below meth c QQ ls hsz hx hb hml hr hts hown hlocks hnm hH hK hST hF hQ hl
  subst hsz
  have hS : va_S (hw_AW G [] s.heap.size) s.heap s.heap [] := va_S.rf
  have hl : lv_has ls 2 [(0, .ref h0), (1, .int p1)] := hl
  have u_10 : ∀ w ∈ u_ws RX11 TX11 14, w.before args s = true := fun w hw => hts w ((by decide +kernel : ∀ w ∈ u_ws RX11 TX11 14, w ∈ wsX11_isBroken) w hw)
  have fg_26_10 : hw_FG s args m 26 10 2 := ⟨RX11, "WardWalkers", RX11, TX11, 14, u_10, hown, rfl, by decide, (hts (.fieldLink RX11 26 "WardWalkers" "now" "LWardWalkers$Standing;") (by decide +kernel)), (fun _ h9 => h9)⟩
  refine lv_aload_n hx hb dX11_isBroken_0 rfl (lv_at hl 0 rfl) ?_
  obtain ⟨r1, pn_2, pc_3, ks_4, sc_5, v6, R7, g8⟩ := hH.oX G0
  refine hw_get hx hb fg_26_10 hK v6 rfl dX11_isBroken_1 ?_
  refine lv_iload_n hx hb dX11_isBroken_4 rfl (lv_at hl 1 rfl) ?_
  obtain ⟨r9, td_10, fd_11, os_12, v13, R14⟩ := hH.oS (hw_RX_2 R7)
  refine hw_cR (va_runV (As := [.int p1]) (rest := []) ⟨hx, hb, hml, hown, hts⟩ (k_X9_turnedOf l D G (r1 2) p1 _ (hw_RX_2 R7)) (cwV 1 hts gX11_isBroken_X9_turnedOf rfl rfl rfl (by decide +kernel) ⟨Nat.le_of_ble_eq_true rfl, Nat.le_of_ble_eq_true rfl⟩) (hw_pV (hw_rc (q := (RX9, TX9, 7)) hK v13 rfl) hH hK hST hS (by decide) (fun _ h => Or.inl h) trivial) rfl rfl hl.1 rfl (lv_room (Nat.le_of_ble_eq_true rfl)) dX11_isBroken_5 ⟨Nat.le_of_ble_eq_true rfl, Nat.le_of_ble_eq_true rfl⟩) (fun v hp => ?_)
  obtain ⟨x15, rfl⟩ := hp
  refine lv_iconst (v := 3) hx hb dX11_isBroken_8 (by decide) ?_
  refine lv_icmp_lt (tgt := 16) hx hb dX11_isBroken_9 (by decide) (fun c16 => ?_) (fun c16 => ?_)
  · have b17 : x15.toInt < 3 := hw_ilt c16
    refine lv_iconst (v := 0) hx hb dX11_isBroken_16 (by decide) ?_
    exact hw_iretR (v := 0) hx hb hr hlocks hQ rfl (Or.inr (rfl)) dX11_isBroken_17
  · have b18 : 3 ≤ x15.toInt := hw_inlt c16
    refine lv_iconst (v := 1) hx hb dX11_isBroken_12 (by decide) ?_
    refine lv_goto (tgt := 17) hx hb dX11_isBroken_13 (by decide) ?_
    exact hw_iretR (v := 1) hx hb hr hlocks hQ rfl (Or.inl rfl) dX11_isBroken_17

set_option maxHeartbeats 4000000 in
set_option maxRecDepth 100000 in
theorem k_X11_pastAt (l : Launch) (D : hw_D) (G : Nat → Nat) (h0 : Nat) (p1 : Int32) (sz : Nat) (G0 : G h0 = 1) : Met l yX11_pastAt wsX11_pastAt ({ frames := 1, cells := 0, slots := 0, locals := 22 } : Room) (hw_PC D G [.ref h0, .int p1] sz (fun H => True)) (hw_QR (fun v => ∃ (r : Nat), v = .ref r ∧ G r = 7)) 0 0 (fun _ => False) := by
  refine hw_met (cc := cX11_pastAt) (maxL := 2) (ret := (some (.object "WardWalkers$Standing"))) (plainFor_of_name (by decide)) rfl (Nat.le_of_ble_eq_true rfl) ?_
  intro p e s m args below meth c QQ ls hsz hx hb hml hr hts hown hlocks hnm hH hK hST hF hQ hl
  subst hsz
  have hS : va_S (hw_AW G [] s.heap.size) s.heap s.heap [] := va_S.rf
  have hl : lv_has ls 2 [(0, .ref h0), (1, .int p1)] := hl
  have u_10 : ∀ w ∈ u_ws RX11 TX11 14, w.before args s = true := fun w hw => hts w ((by decide +kernel : ∀ w ∈ u_ws RX11 TX11 14, w ∈ wsX11_pastAt) w hw)
  have fg_30_10 : hw_FG s args m 30 10 3 := ⟨RX11, "WardWalkers", RX11, TX11, 14, u_10, hown, rfl, by decide, (hts (.fieldLink RX11 30 "WardWalkers" "past" "[LWardWalkers$Standing;") (by decide +kernel)), (fun _ h9 => h9)⟩
  refine lv_aload_n hx hb dX11_pastAt_0 rfl (lv_at hl 0 rfl) ?_
  obtain ⟨r1, pn_2, pc_3, ks_4, sc_5, v6, R7, g8⟩ := hH.oX G0
  refine hw_get hx hb fg_30_10 hK v6 rfl dX11_pastAt_1 ?_
  refine lv_iload_n hx hb dX11_pastAt_4 rfl (lv_at hl 1 rfl) ?_
  refine lv_bipush (v := 8) hx hb dX11_pastAt_5 (by decide) ?_
  refine hw_cR (va_runS (As := [.int p1, .int 8]) (rest := [.ref (r1 3)]) ⟨hx, hb, hml, hown, hts⟩ (k_J9_floorMod_7cf53 l D G p1 8 _ (rfl)) (va_cwS 2 hts gX11_pastAt_J9_floorMod_7cf53 rfl rfl rfl (by decide +kernel) ⟨Nat.le_of_ble_eq_true rfl, Nat.le_of_ble_eq_true rfl⟩) (hw_pS hH hK hST hS (by decide) (fun _ h => Or.inl h) trivial) rfl rfl hl.1 rfl (lv_room (Nat.le_of_ble_eq_true rfl)) dX11_pastAt_7 ⟨Nat.le_of_ble_eq_true rfl, Nat.le_of_ble_eq_true rfl⟩) (fun v hp => ?_)
  obtain ⟨x9, rfl, g10⟩ := hp
  obtain ⟨f11, v12, q13⟩ := hH.a27 (hw_RX_3 R7)
  have n14 : vp_in x9 8 := (hw_in (by omega) (by omega))
  refine hw_aald (t := 5) hx hb hK v12 rfl n14 dX11_pastAt_10 ?_
  have l15 : x9.toNatClampNeg < 8 := Nat.not_le.mp fun q => n14 (Or.inr q)
  obtain ⟨b16, e17, k18⟩ := q13 _ l15
  rw [e17]
  refine W.eq (g2 := F0 m 11 ls [.ref b16]) rfl ?_
  exact hw_aretR (v := .ref b16) hx hb hr (Or.inl ⟨_, rfl⟩) hlocks hQ (Or.inr ⟨_, rfl⟩) (⟨b16, rfl, k18⟩) dX11_pastAt_11

set_option maxHeartbeats 4000000 in
set_option maxRecDepth 100000 in
theorem k_X11_remember (l : Launch) (D : hw_D) (G : Nat → Nat) (h0 : Nat) (sz : Nat) (rx : Nat → Nat) (pn_x pc_x ks_x sc_x : Int32) (rn : Nat → Nat) (td_n fd_n os_n : Int32) (G0 : G h0 = 1) (Rx : hw_RX G rx) (gsc_x : 0 ≤ sc_x.toInt ∧ sc_x.toInt ≤ 6) (Rn : hw_RS G rn) : Met l yX11_remember wsX11_remember ({ frames := 2, cells := 0, slots := 0, locals := 43 } : Room) (hw_PC D G [.ref h0] sz (fun H => va_at D.1 vwCl (h0, .inr (10, hw_LX rx pn_x pc_x ks_x sc_x)) H ∧ va_at D.1 vwCl ((rx 2), .inr (8, hw_LS rn td_n fd_n os_n)) H)) (hw_QM (fun v H => ∃ (pn_x2 : Int32) (pc_x2 : Int32) (fd_n2 : Int32) (os_n2 : Int32), v = none ∧ hw_HT D G H ∧ va_at D.1 vwCl (h0, .inr (10, hw_LX rx pn_x2 pc_x2 ks_x sc_x)) H ∧ va_at D.1 vwCl ((rx 2), .inr (8, hw_LS rn td_n fd_n2 os_n2)) H) (hw_AW G [1, 7, 20, 21, 22, 23] sz)) 0 0 (hw_AW G [1, 7, 20, 21, 22, 23] sz) := by
  refine hw_met (cc := cX11_remember) (maxL := 1) (ret := none) (plainFor_of_name (by decide)) rfl (Nat.le_of_ble_eq_true rfl) ?_
  intro p e s m args below meth c QQ ls hsz hx hb hml hr hts hown hlocks hnm hH hK hST hF hQ hl
  subst hsz
  have hS : va_S (hw_AW G [1, 7, 20, 21, 22, 23] s.heap.size) s.heap s.heap [] := va_S.rf
  obtain ⟨vx, vn⟩ := hF
  have hl : lv_has ls 1 [(0, .ref h0)] := hl
  have u_10 : ∀ w ∈ u_ws RX11 TX11 14, w.before args s = true := fun w hw => hts w ((by decide +kernel : ∀ w ∈ u_ws RX11 TX11 14, w ∈ wsX11_remember) w hw)
  have fg_211_10 : hw_FG s args m 211 10 4 := ⟨RX11, "WardWalkers", RX11, TX11, 14, u_10, hown, rfl, by decide, (hts (.fieldLink RX11 211 "WardWalkers" "pastNext" "I") (by decide +kernel)), (fun _ h9 => h9)⟩
  have fg_26_10 : hw_FG s args m 26 10 2 := ⟨RX11, "WardWalkers", RX11, TX11, 14, u_10, hown, rfl, by decide, (hts (.fieldLink RX11 26 "WardWalkers" "now" "LWardWalkers$Standing;") (by decide +kernel)), (fun _ h9 => h9)⟩
  have fp_211_10 : hw_FP s args m 211 10 4 false .int := ⟨RX11, "WardWalkers", RX11, TX11, 14, tyX11, u_10, hown, rfl, by decide, (hts (.fieldLink RX11 211 "WardWalkers" "pastNext" "I") (by decide +kernel)), (fun _ h9 => h9), tyX11_ok, nmX11, rfl, (fun h => by cases h), by decide +kernel⟩
  have fg_94_10 : hw_FG s args m 94 10 5 := ⟨RX11, "WardWalkers", RX11, TX11, 14, u_10, hown, rfl, by decide, (hts (.fieldLink RX11 94 "WardWalkers" "pastCount" "I") (by decide +kernel)), (fun _ h9 => h9)⟩
  have fp_94_10 : hw_FP s args m 94 10 5 false .int := ⟨RX11, "WardWalkers", RX11, TX11, 14, tyX11, u_10, hown, rfl, by decide, (hts (.fieldLink RX11 94 "WardWalkers" "pastCount" "I") (by decide +kernel)), (fun _ h9 => h9), tyX11_ok, nmX11, rfl, (fun h => by cases h), by decide +kernel⟩
  refine lv_aload_n hx hb dX11_remember_0 rfl (lv_at hl 0 rfl) ?_
  refine lv_aload_n hx hb dX11_remember_1 rfl (lv_at hl 0 rfl) ?_
  refine hw_get hx hb fg_211_10 hK vx rfl dX11_remember_2 ?_
  refine hw_cR (va_runV (As := [.int pn_x]) (rest := []) ⟨hx, hb, hml, hown, hts⟩ (k_X11_pastAt l D G h0 pn_x _ G0) (cwV 1 hts gX11_remember_X11_pastAt rfl rfl rfl (by decide +kernel) ⟨Nat.le_of_ble_eq_true rfl, Nat.le_of_ble_eq_true rfl⟩) (hw_pV (hw_rc (q := (RX11, TX11, 14)) hK vx rfl) hH hK hST hS (by decide) (fun _ h => Or.inl h) trivial) rfl rfl hl.1 rfl (lv_room (Nat.le_of_ble_eq_true rfl)) dX11_remember_5 ⟨Nat.le_of_ble_eq_true rfl, Nat.le_of_ble_eq_true rfl⟩) (fun v hp => ?_)
  obtain ⟨b1, rfl, k2⟩ := hp
  refine lv_aload_n hx hb dX11_remember_8 rfl (lv_at hl 0 rfl) ?_
  refine hw_get hx hb fg_26_10 hK vx rfl dX11_remember_9 ?_
  obtain ⟨r3, td_4, fd_5, os_6, v7, R8⟩ := hH.oS k2
  refine hw_cM0 (va_runV (As := [.ref (rx 2)]) (rest := []) ⟨hx, hb, hml, hown, hts⟩ (k_X9_takeFrom l D G b1 (rx 2) _ rn td_n fd_n os_n k2 (hw_RX_2 Rx) Rn) (cwV 1 hts gX11_remember_X9_takeFrom rfl rfl rfl (by decide +kernel) ⟨Nat.le_of_ble_eq_true rfl, Nat.le_of_ble_eq_true rfl⟩) (hw_pV (hw_rc (q := (RX9, TX9, 7)) hK v7 rfl) hH hK hST hS (by decide) (fun _ h => Or.inl h) vn) rfl rfl hl.1 rfl (lv_room (Nat.le_of_ble_eq_true rfl)) dX11_remember_12 ⟨Nat.le_of_ble_eq_true rfl, Nat.le_of_ble_eq_true rfl⟩) hS (hw_AWsub (by decide) (fun _ _ => rfl) hS.1) (fun v H locs hp hz hk hS => ?_)
  obtain ⟨x9, x10, rfl, hH, v11⟩ := hp
  have vx := va_at.kept vx (hk _ (hw_lt vx) (hw_AWn G0 (by decide) (hw_lt vx)))
  refine lv_aload_n hx hb dX11_remember_15 rfl (lv_at hl 0 rfl) ?_
  refine lv_dup hx hb dX11_remember_16 rfl ?_
  refine hw_get hx hb fg_211_10 hK vx rfl dX11_remember_17 ?_
  refine lv_iconst (v := 1) hx hb dX11_remember_20 (by decide) ?_
  refine lv_iadd hx hb dX11_remember_21 ?_
  refine lv_topi (fun x12 e13 => ?_)
  refine hw_put (v := .int x12) (fs' := hw_LX rx x12 pc_x ks_x sc_x) hx hb fp_211_10 hK hH vx (Nat.le_of_ble_eq_true rfl) rfl rfl rfl (fun _ => by rw [G0]; exact ⟨rx, x12, pc_x, ks_x, sc_x, rfl, Rx, ⟨by first | decide | omega, by first | decide | omega⟩⟩) hS (hw_AWi G0 (by decide)) dX11_remember_22 (fun H locs hH vx oq hz hS => ?_)
  have v11 := va_at.kept v11 (oq _ (hw_ne (hw_RX_2 Rx) G0 (by decide)))
  refine lv_aload_n hx hb dX11_remember_25 rfl (lv_at hl 0 rfl) ?_
  refine lv_aload_n hx hb dX11_remember_26 rfl (lv_at hl 0 rfl) ?_
  refine hw_get hx hb fg_94_10 hK vx rfl dX11_remember_27 ?_
  refine lv_iconst (v := 1) hx hb dX11_remember_30 (by decide) ?_
  refine lv_iadd hx hb dX11_remember_31 ?_
  refine lv_topi (fun x14 e15 => ?_)
  refine lv_bipush (v := 8) hx hb dX11_remember_32 (by decide) ?_
  refine va_mmin hx hb (hml.trans hl.1.symm) hown (hts (.methodLink RX11 289 Lib.Math.min.name) (by decide +kernel)) (hts (.static Lib.Math.min.name) (by decide +kernel)) (hts (.initialized "java/lang/Math") (by decide +kernel)) (hts (.code Lib.Math.min.name Lib.Math.min.code 2 (some .int)) (by decide +kernel)) (Nat.le_of_ble_eq_true rfl) (Nat.le_of_ble_eq_true rfl) (Nat.le_of_ble_eq_true rfl) (Nat.le_of_ble_eq_true rfl) dX11_remember_34 ?_
  refine lv_topi (fun x16 e17 => ?_)
  have t18 : x16.toInt = min x14.toInt 8 := by rw [e17]; exact hw_min rfl rfl
  refine hw_put (v := .int x16) (fs' := hw_LX rx x12 x16 ks_x sc_x) hx hb fp_94_10 hK hH vx (Nat.le_of_ble_eq_true rfl) rfl rfl rfl (fun _ => by rw [G0]; exact ⟨rx, x12, x16, ks_x, sc_x, rfl, Rx, ⟨by first | decide | omega, by first | decide | omega⟩⟩) hS (hw_AWi G0 (by decide)) dX11_remember_37 (fun H locs hH vx oq hz hS => ?_)
  have v11 := va_at.kept v11 (oq _ (hw_ne (hw_RX_2 Rx) G0 (by decide)))
  exact hw_vretM hx hb hr hlocks hQ hS (⟨x12, x16, x9, x10, rfl, hH, vx, v11⟩) dX11_remember_40

set_option maxHeartbeats 4000000 in
set_option maxRecDepth 100000 in
theorem k_X11_locksFor (l : Launch) (D : hw_D) (G : Nat → Nat) (h0 : Nat) (p1 : Nat) (p2 : Int32) (sz : Nat) (G0 : G h0 = 1) (G1 : G p1 = 3) : Met l yX11_locksFor wsX11_locksFor ({ frames := 4, cells := 0, slots := 0, locals := 89 } : Room) (hw_PC D G [.ref h0, .ref p1, .int p2] sz (fun H => True)) (hw_QR (fun v => ∃ (r : Int32), v = .int r)) 0 0 (fun _ => False) := by
  refine hw_met (cc := cX11_locksFor) (maxL := 6) (ret := (some .int)) (plainFor_of_name (by decide)) rfl (Nat.le_of_ble_eq_true rfl) ?_
  intro p e s m args below meth c QQ ls hsz hx hb hml hr hts hown hlocks hnm hH hK hST hF hQ hl
  subst hsz
  have hS : va_S (hw_AW G [] s.heap.size) s.heap s.heap [] := va_S.rf
  have hl : lv_has ls 6 [(0, .ref h0), (1, .ref p1), (2, .int p2)] := hl
  have u_10 : ∀ w ∈ u_ws RX11 TX11 14, w.before args s = true := fun w hw => hts w ((by decide +kernel : ∀ w ∈ u_ws RX11 TX11 14, w ∈ wsX11_locksFor) w hw)
  have fg_10_10 : hw_FG s args m 10 10 0 := ⟨RX11, "WardWalkers", RX11, TX11, 14, u_10, hown, rfl, by decide, (hts (.fieldLink RX11 10 "WardWalkers" "country" "LWardWalkers$Country;") (by decide +kernel)), (fun _ h9 => h9)⟩
  have u_1 : ∀ w ∈ u_ws RX1 TX1 7, w.before args s = true := fun w hw => hts w ((by decide +kernel : ∀ w ∈ u_ws RX1 TX1 7, w ∈ wsX11_locksFor) w hw)
  have fg_256_1 : hw_FG s args m 256 1 3 := ⟨RX11, "WardWalkers$Country", RX1, TX1, 7, u_1, hown, rfl, by decide, (hts (.fieldLink RX11 256 "WardWalkers$Country" "lockCount" "I") (by decide +kernel)), (fun _ h9 => h9)⟩
  refine lv_iconst (v := 0) hx hb dX11_locksFor_0 (by decide) ?_
  refine lv_istore_n (lv' := [(3, .int 0), (0, .ref h0), (1, .ref p1), (2, .int p2)]) hx hb dX11_locksFor_1 rfl hl (by decide) rfl (fun ls hl => ?_)
  refine lv_iconst (v := 0) hx hb dX11_locksFor_2 (by decide) ?_
  refine lv_istore (lv' := [(4, .int 0), (3, .int 0), (0, .ref h0), (1, .ref p1), (2, .int p2)]) hx hb dX11_locksFor_3 hl (by decide) rfl (fun ls hl => ?_)
  have L5 : ∀ (n4 : Nat) (y4_1 : Int32) (y3_2 : Int32) (hm : (7 - y4_1.toInt).toNat < n4) (g3 : 0 ≤ y4_1.toInt ∧ y4_1.toInt ≤ 7) (ls : Array Slot) (hl : lv_has ls 6 [(4, .int y4_1), (3, .int y3_2), (0, .ref h0), (1, .ref p1), (2, .int p2)]), W p l e ({ frames := 4, cells := 0, slots := 0, locals := 89 } : Room) s m args below meth c s.heap [] 0 0 QQ (F0 m 5 ls []) := by
    intro n4
    induction n4 with
    | zero => intro y4_1 y3_2 hm; exact absurd hm (Nat.not_lt_zero _)
    | succ n4 ih5 =>
      intro y4_1 y3_2 hm g3 ls hl
      refine lv_iload hx hb dX11_locksFor_5 (lv_at hl 0 rfl) ?_
      refine lv_aload_n hx hb dX11_locksFor_7 rfl (lv_at hl 2 rfl) ?_
      obtain ⟨r5, pn_6, pc_7, ks_8, sc_9, v10, R11, g12⟩ := hH.oX G0
      refine hw_get hx hb fg_10_10 hK v10 rfl dX11_locksFor_8 ?_
      obtain ⟨r13, kc_14, lc_15, wc_16, dk_17, v18, R19, g20, g21, g22⟩ := hH.oC (hw_RX_0 R11)
      refine hw_get hx hb fg_256_1 hK v18 rfl dX11_locksFor_11 ?_
      refine lv_icmp_ge (tgt := 56) hx hb dX11_locksFor_14 (by decide) (fun c23 => ?_) (fun c23 => ?_)
      · have b24 : lc_15.toInt ≤ y4_1.toInt := hw_ile c23
        refine lv_iload_n hx hb dX11_locksFor_56 rfl (lv_at hl 1 rfl) ?_
        exact hw_iretR (v := y3_2) hx hb hr hlocks hQ rfl (⟨y3_2, rfl⟩) dX11_locksFor_57
      · have b25 : y4_1.toInt < lc_15.toInt := hw_inle c23
        refine lv_aload_n hx hb dX11_locksFor_17 rfl (lv_at hl 2 rfl) ?_
        refine hw_get hx hb fg_10_10 hK v10 rfl dX11_locksFor_18 ?_
        refine lv_iload hx hb dX11_locksFor_21 (lv_at hl 0 rfl) ?_
        refine hw_cR (va_runV (As := [.int y4_1]) (rest := []) ⟨hx, hb, hml, hown, hts⟩ (k_X1_lockAt l D G (r5 0) y4_1 _ r13 kc_14 lc_15 wc_16 dk_17 (hw_RX_0 R11) R19 ⟨by first | decide | omega, by first | decide | omega⟩ ⟨by first | decide | omega, by first | decide | omega⟩ ⟨by first | decide | omega, by first | decide | omega⟩) (cwV 1 hts gX11_locksFor_X1_lockAt rfl rfl rfl (by decide +kernel) ⟨Nat.le_of_ble_eq_true rfl, Nat.le_of_ble_eq_true rfl⟩) (hw_pV (hw_rc (q := (RX1, TX1, 7)) hK v18 rfl) hH hK hST hS (by decide) (fun _ h => Or.inl h) v18) rfl rfl hl.1 rfl (lv_room (Nat.le_of_ble_eq_true rfl)) dX11_locksFor_23 ⟨Nat.le_of_ble_eq_true rfl, Nat.le_of_ble_eq_true rfl⟩) (fun v hp => ?_)
        rcases hp with rfl | ⟨b26, rfl, k27, q28⟩
        · refine lv_astoreN (lv' := [(5, .null), (4, .int y4_1), (3, .int y3_2), (0, .ref h0), (1, .ref p1), (2, .int p2)]) hx hb dX11_locksFor_26 hl (by decide) rfl (fun ls hl => ?_)
          refine lv_aloadN hx hb dX11_locksFor_28 (lv_at hl 0 rfl) ?_
          refine lv_ifnullN (tgt := 50) hx hb dX11_locksFor_30 (by decide) ?_
          obtain ⟨x29, e30⟩ : ∃ y : Int32, y = y4_1 + 1 := ⟨_, rfl⟩
          refine lv_iinc (v := x29) (lv' := [(4, .int x29), (5, .null), (3, .int y3_2), (0, .ref h0), (1, .ref p1), (2, .int p2)]) hx hb dX11_locksFor_50 hl (k := 1) rfl (by rw [e30]; rfl) (by decide) rfl (fun ls hl => ?_)
          have t31 : x29.toInt = y4_1.toInt + 1 := by rw [e30]; exact hw_add rfl rfl (by omega) (by omega)
          refine lv_goto (tgt := 5) hx hb dX11_locksFor_53 (by decide) ?_
          exact ih5 x29 y3_2 (by first | omega | omega) ⟨by first | decide | omega, by first | decide | omega⟩ _ (lv_sub hl [0, 2, 3, 4, 5] rfl)
        · refine lv_astore (lv' := [(5, .ref b26), (4, .int y4_1), (3, .int y3_2), (0, .ref h0), (1, .ref p1), (2, .int p2)]) hx hb dX11_locksFor_26 hl (by decide) rfl (fun ls hl => ?_)
          refine lv_aload hx hb dX11_locksFor_28 (lv_at hl 0 rfl) ?_
          refine lv_ifnull hx hb dX11_locksFor_30 ?_
          refine lv_aload hx hb dX11_locksFor_33 (lv_at hl 0 rfl) ?_
          refine lv_aload_n hx hb dX11_locksFor_35 rfl (lv_at hl 4 rfl) ?_
          refine lv_iload_n hx hb dX11_locksFor_36 rfl (lv_at hl 5 rfl) ?_
          obtain ⟨r32, pl_33, wa_34, py_35, va_36, v37⟩ := hH.oL k27
          refine hw_cR (va_runV (As := [.ref p1, .int p2]) (rest := []) ⟨hx, hb, hml, hown, hts⟩ (k_X4_letsIn l D G b26 p1 p2 _ k27 G1) (cwV 2 hts gX11_locksFor_X4_letsIn rfl rfl rfl (by decide +kernel) ⟨Nat.le_of_ble_eq_true rfl, Nat.le_of_ble_eq_true rfl⟩) (hw_pV (hw_rc (q := (RX4, TX4, 4)) hK v37 rfl) hH hK hST hS (by decide) (fun _ h => Or.inl h) trivial) rfl rfl hl.1 rfl (lv_room (Nat.le_of_ble_eq_true rfl)) dX11_locksFor_37 ⟨Nat.le_of_ble_eq_true rfl, Nat.le_of_ble_eq_true rfl⟩) (fun v hp => ?_)
          rcases hp with rfl | rfl
          · refine lv_if_eq (tgt := 50) hx hb dX11_locksFor_40 (by decide) (fun c39 => ?_) (fun c39 => ?_)
            · exact absurd c39 (by decide)
            · refine lv_iload_n hx hb dX11_locksFor_43 rfl (lv_at hl 2 rfl) ?_
              refine lv_iconst (v := 1) hx hb dX11_locksFor_44 (by decide) ?_
              refine lv_iload hx hb dX11_locksFor_45 (lv_at hl 1 rfl) ?_
              refine lv_ishl hx hb dX11_locksFor_47 ?_
              refine lv_topi (fun x40 e41 => ?_)
              have t42 : 1 ≤ x40.toInt ∧ x40.toInt ≤ 64 := by rw [e41]; exact hw_sh1b 6 (by decide) (by first | decide | omega) (by first | decide | omega)
              refine lv_ior hx hb dX11_locksFor_48 ?_
              refine lv_topi (fun x43 e44 => ?_)
              refine lv_istore_n (lv' := [(3, .int x43), (5, .ref b26), (4, .int y4_1), (0, .ref h0), (1, .ref p1), (2, .int p2)]) hx hb dX11_locksFor_49 rfl hl (by decide) rfl (fun ls hl => ?_)
              obtain ⟨x45, e46⟩ : ∃ y : Int32, y = y4_1 + 1 := ⟨_, rfl⟩
              refine lv_iinc (v := x45) (lv' := [(4, .int x45), (3, .int x43), (5, .ref b26), (0, .ref h0), (1, .ref p1), (2, .int p2)]) hx hb dX11_locksFor_50 hl (k := 2) rfl (by rw [e46]; rfl) (by decide) rfl (fun ls hl => ?_)
              have t47 : x45.toInt = y4_1.toInt + 1 := by rw [e46]; exact hw_add rfl rfl (by omega) (by omega)
              refine lv_goto (tgt := 5) hx hb dX11_locksFor_53 (by decide) ?_
              exact ih5 x45 x43 (by first | omega | omega) ⟨by first | decide | omega, by first | decide | omega⟩ _ (lv_sub hl [0, 1, 3, 4, 5] rfl)
          · refine lv_if_eq (tgt := 50) hx hb dX11_locksFor_40 (by decide) (fun c48 => ?_) (fun c48 => ?_)
            · obtain ⟨x49, e50⟩ : ∃ y : Int32, y = y4_1 + 1 := ⟨_, rfl⟩
              refine lv_iinc (v := x49) (lv' := [(4, .int x49), (5, .ref b26), (3, .int y3_2), (0, .ref h0), (1, .ref p1), (2, .int p2)]) hx hb dX11_locksFor_50 hl (k := 1) rfl (by rw [e50]; rfl) (by decide) rfl (fun ls hl => ?_)
              have t51 : x49.toInt = y4_1.toInt + 1 := by rw [e50]; exact hw_add rfl rfl (by omega) (by omega)
              refine lv_goto (tgt := 5) hx hb dX11_locksFor_53 (by decide) ?_
              exact ih5 x49 y3_2 (by first | omega | omega) ⟨by first | decide | omega, by first | decide | omega⟩ _ (lv_sub hl [0, 2, 3, 4, 5] rfl)
            · exact absurd c48 (by decide)
  exact L5 _ 0 0 (Nat.lt_succ_self _) ⟨by first | decide | omega, by first | decide | omega⟩ _ (lv_sub hl [0, 1, 2, 3, 4] rfl)

set_option maxHeartbeats 4000000 in
set_option maxRecDepth 100000 in
theorem k_X11_keysFor (l : Launch) (D : hw_D) (G : Nat → Nat) (h0 : Nat) (p1 : Nat) (sz : Nat) (G0 : G h0 = 1) (G1 : G p1 = 4) : Met l yX11_keysFor wsX11_keysFor ({ frames := 4, cells := 0, slots := 0, locals := 89 } : Room) (hw_PC D G [.ref h0, .ref p1] sz (fun H => True)) (hw_QR (fun v => ∃ (r : Int32), v = .int r)) 0 0 (fun _ => False) := by
  refine hw_met (cc := cX11_keysFor) (maxL := 5) (ret := (some .int)) (plainFor_of_name (by decide)) rfl (Nat.le_of_ble_eq_true rfl) ?_
  intro p e s m args below meth c QQ ls hsz hx hb hml hr hts hown hlocks hnm hH hK hST hF hQ hl
  subst hsz
  have hS : va_S (hw_AW G [] s.heap.size) s.heap s.heap [] := va_S.rf
  have hl : lv_has ls 5 [(0, .ref h0), (1, .ref p1)] := hl
  have u_10 : ∀ w ∈ u_ws RX11 TX11 14, w.before args s = true := fun w hw => hts w ((by decide +kernel : ∀ w ∈ u_ws RX11 TX11 14, w ∈ wsX11_keysFor) w hw)
  have fg_10_10 : hw_FG s args m 10 10 0 := ⟨RX11, "WardWalkers", RX11, TX11, 14, u_10, hown, rfl, by decide, (hts (.fieldLink RX11 10 "WardWalkers" "country" "LWardWalkers$Country;") (by decide +kernel)), (fun _ h9 => h9)⟩
  have u_1 : ∀ w ∈ u_ws RX1 TX1 7, w.before args s = true := fun w hw => hts w ((by decide +kernel : ∀ w ∈ u_ws RX1 TX1 7, w ∈ wsX11_keysFor) w hw)
  have fg_234_1 : hw_FG s args m 234 1 1 := ⟨RX11, "WardWalkers$Country", RX1, TX1, 7, u_1, hown, rfl, by decide, (hts (.fieldLink RX11 234 "WardWalkers$Country" "keyCount" "I") (by decide +kernel)), (fun _ h9 => h9)⟩
  have fg_26_10 : hw_FG s args m 26 10 2 := ⟨RX11, "WardWalkers", RX11, TX11, 14, u_10, hown, rfl, by decide, (hts (.fieldLink RX11 26 "WardWalkers" "now" "LWardWalkers$Standing;") (by decide +kernel)), (fun _ h9 => h9)⟩
  refine lv_iconst (v := 0) hx hb dX11_keysFor_0 (by decide) ?_
  refine lv_istore_n (lv' := [(2, .int 0), (0, .ref h0), (1, .ref p1)]) hx hb dX11_keysFor_1 rfl hl (by decide) rfl (fun ls hl => ?_)
  refine lv_iconst (v := 0) hx hb dX11_keysFor_2 (by decide) ?_
  refine lv_istore_n (lv' := [(3, .int 0), (2, .int 0), (0, .ref h0), (1, .ref p1)]) hx hb dX11_keysFor_3 rfl hl (by decide) rfl (fun ls hl => ?_)
  have L4 : ∀ (n4 : Nat) (y3_1 : Int32) (y2_2 : Int32) (hm : (7 - y3_1.toInt).toNat < n4) (g3 : 0 ≤ y3_1.toInt ∧ y3_1.toInt ≤ 7) (ls : Array Slot) (hl : lv_has ls 5 [(3, .int y3_1), (2, .int y2_2), (0, .ref h0), (1, .ref p1)]), W p l e ({ frames := 4, cells := 0, slots := 0, locals := 89 } : Room) s m args below meth c s.heap [] 0 0 QQ (F0 m 4 ls []) := by
    intro n4
    induction n4 with
    | zero => intro y3_1 y2_2 hm; exact absurd hm (Nat.not_lt_zero _)
    | succ n4 ih4 =>
      intro y3_1 y2_2 hm g3 ls hl
      refine lv_iload_n hx hb dX11_keysFor_4 rfl (lv_at hl 0 rfl) ?_
      refine lv_aload_n hx hb dX11_keysFor_5 rfl (lv_at hl 2 rfl) ?_
      obtain ⟨r5, pn_6, pc_7, ks_8, sc_9, v10, R11, g12⟩ := hH.oX G0
      refine hw_get hx hb fg_10_10 hK v10 rfl dX11_keysFor_6 ?_
      obtain ⟨r13, kc_14, lc_15, wc_16, dk_17, v18, R19, g20, g21, g22⟩ := hH.oC (hw_RX_0 R11)
      refine hw_get hx hb fg_234_1 hK v18 rfl dX11_keysFor_9 ?_
      refine lv_icmp_ge (tgt := 59) hx hb dX11_keysFor_12 (by decide) (fun c23 => ?_) (fun c23 => ?_)
      · have b24 : kc_14.toInt ≤ y3_1.toInt := hw_ile c23
        refine lv_iload_n hx hb dX11_keysFor_59 rfl (lv_at hl 1 rfl) ?_
        exact hw_iretR (v := y2_2) hx hb hr hlocks hQ rfl (⟨y2_2, rfl⟩) dX11_keysFor_60
      · have b25 : y3_1.toInt < kc_14.toInt := hw_inle c23
        refine lv_aload_n hx hb dX11_keysFor_15 rfl (lv_at hl 2 rfl) ?_
        refine hw_get hx hb fg_10_10 hK v10 rfl dX11_keysFor_16 ?_
        refine lv_iload_n hx hb dX11_keysFor_19 rfl (lv_at hl 0 rfl) ?_
        refine hw_cR (va_runV (As := [.int y3_1]) (rest := []) ⟨hx, hb, hml, hown, hts⟩ (k_X1_keyAt l D G (r5 0) y3_1 _ r13 kc_14 lc_15 wc_16 dk_17 (hw_RX_0 R11) R19 ⟨by first | decide | omega, by first | decide | omega⟩ ⟨by first | decide | omega, by first | decide | omega⟩ ⟨by first | decide | omega, by first | decide | omega⟩) (cwV 1 hts gX11_keysFor_X1_keyAt rfl rfl rfl (by decide +kernel) ⟨Nat.le_of_ble_eq_true rfl, Nat.le_of_ble_eq_true rfl⟩) (hw_pV (hw_rc (q := (RX1, TX1, 7)) hK v18 rfl) hH hK hST hS (by decide) (fun _ h => Or.inl h) v18) rfl rfl hl.1 rfl (lv_room (Nat.le_of_ble_eq_true rfl)) dX11_keysFor_20 ⟨Nat.le_of_ble_eq_true rfl, Nat.le_of_ble_eq_true rfl⟩) (fun v hp => ?_)
        rcases hp with rfl | ⟨b26, rfl, k27, q28⟩
        · refine lv_astoreN (lv' := [(4, .null), (3, .int y3_1), (2, .int y2_2), (0, .ref h0), (1, .ref p1)]) hx hb dX11_keysFor_23 hl (by decide) rfl (fun ls hl => ?_)
          refine lv_aloadN hx hb dX11_keysFor_25 (lv_at hl 0 rfl) ?_
          refine lv_ifnullN (tgt := 53) hx hb dX11_keysFor_27 (by decide) ?_
          obtain ⟨x29, e30⟩ : ∃ y : Int32, y = y3_1 + 1 := ⟨_, rfl⟩
          refine lv_iinc (v := x29) (lv' := [(3, .int x29), (4, .null), (2, .int y2_2), (0, .ref h0), (1, .ref p1)]) hx hb dX11_keysFor_53 hl (k := 1) rfl (by rw [e30]; rfl) (by decide) rfl (fun ls hl => ?_)
          have t31 : x29.toInt = y3_1.toInt + 1 := by rw [e30]; exact hw_add rfl rfl (by omega) (by omega)
          refine lv_goto (tgt := 4) hx hb dX11_keysFor_56 (by decide) ?_
          exact ih4 x29 y2_2 (by first | omega | omega) ⟨by first | decide | omega, by first | decide | omega⟩ _ (lv_sub hl [0, 2, 3, 4] rfl)
        · refine lv_astore (lv' := [(4, .ref b26), (3, .int y3_1), (2, .int y2_2), (0, .ref h0), (1, .ref p1)]) hx hb dX11_keysFor_23 hl (by decide) rfl (fun ls hl => ?_)
          refine lv_aload hx hb dX11_keysFor_25 (lv_at hl 0 rfl) ?_
          refine lv_ifnull hx hb dX11_keysFor_27 ?_
          refine lv_aload_n hx hb dX11_keysFor_30 rfl (lv_at hl 4 rfl) ?_
          refine lv_aload hx hb dX11_keysFor_31 (lv_at hl 0 rfl) ?_
          refine lv_aload_n hx hb dX11_keysFor_33 rfl (lv_at hl 3 rfl) ?_
          refine hw_get hx hb fg_26_10 hK v10 rfl dX11_keysFor_34 ?_
          refine lv_iload_n hx hb dX11_keysFor_37 rfl (lv_at hl 1 rfl) ?_
          obtain ⟨r32, td_33, fd_34, os_35, v36, R37⟩ := hH.oS (hw_RX_2 R11)
          refine hw_cR (va_runV (As := [.int y3_1]) (rest := [.ref b26, .ref p1]) ⟨hx, hb, hml, hown, hts⟩ (k_X9_bentOf l D G (r5 2) y3_1 _ (hw_RX_2 R11)) (cwV 1 hts gX11_keysFor_X9_bentOf rfl rfl rfl (by decide +kernel) ⟨Nat.le_of_ble_eq_true rfl, Nat.le_of_ble_eq_true rfl⟩) (hw_pV (hw_rc (q := (RX9, TX9, 7)) hK v36 rfl) hH hK hST hS (by decide) (fun _ h => Or.inl h) trivial) rfl rfl hl.1 rfl (lv_room (Nat.le_of_ble_eq_true rfl)) dX11_keysFor_38 ⟨Nat.le_of_ble_eq_true rfl, Nat.le_of_ble_eq_true rfl⟩) (fun v hp => ?_)
          obtain ⟨x38, rfl⟩ := hp
          obtain ⟨r39, pl_40, wa_41, py_42, va_43, v44⟩ := hH.oL G1
          refine hw_cR (va_runV (As := [.ref b26, .int x38]) (rest := []) ⟨hx, hb, hml, hown, hts⟩ (k_X4_letsIn l D G p1 b26 x38 _ G1 k27) (cwV 2 hts gX11_keysFor_X4_letsIn rfl rfl rfl (by decide +kernel) ⟨Nat.le_of_ble_eq_true rfl, Nat.le_of_ble_eq_true rfl⟩) (hw_pV (hw_rc (q := (RX4, TX4, 4)) hK v44 rfl) hH hK hST hS (by decide) (fun _ h => Or.inl h) trivial) rfl rfl hl.1 rfl (lv_room (Nat.le_of_ble_eq_true rfl)) dX11_keysFor_41 ⟨Nat.le_of_ble_eq_true rfl, Nat.le_of_ble_eq_true rfl⟩) (fun v hp => ?_)
          rcases hp with rfl | rfl
          · refine lv_if_eq (tgt := 53) hx hb dX11_keysFor_44 (by decide) (fun c46 => ?_) (fun c46 => ?_)
            · exact absurd c46 (by decide)
            · refine lv_iload_n hx hb dX11_keysFor_47 rfl (lv_at hl 2 rfl) ?_
              refine lv_iconst (v := 1) hx hb dX11_keysFor_48 (by decide) ?_
              refine lv_iload_n hx hb dX11_keysFor_49 rfl (lv_at hl 1 rfl) ?_
              refine lv_ishl hx hb dX11_keysFor_50 ?_
              refine lv_topi (fun x47 e48 => ?_)
              have t49 : 1 ≤ x47.toInt ∧ x47.toInt ≤ 64 := by rw [e48]; exact hw_sh1b 6 (by decide) (by first | decide | omega) (by first | decide | omega)
              refine lv_ior hx hb dX11_keysFor_51 ?_
              refine lv_topi (fun x50 e51 => ?_)
              refine lv_istore_n (lv' := [(2, .int x50), (4, .ref b26), (3, .int y3_1), (0, .ref h0), (1, .ref p1)]) hx hb dX11_keysFor_52 rfl hl (by decide) rfl (fun ls hl => ?_)
              obtain ⟨x52, e53⟩ : ∃ y : Int32, y = y3_1 + 1 := ⟨_, rfl⟩
              refine lv_iinc (v := x52) (lv' := [(3, .int x52), (2, .int x50), (4, .ref b26), (0, .ref h0), (1, .ref p1)]) hx hb dX11_keysFor_53 hl (k := 2) rfl (by rw [e53]; rfl) (by decide) rfl (fun ls hl => ?_)
              have t54 : x52.toInt = y3_1.toInt + 1 := by rw [e53]; exact hw_add rfl rfl (by omega) (by omega)
              refine lv_goto (tgt := 4) hx hb dX11_keysFor_56 (by decide) ?_
              exact ih4 x52 x50 (by first | omega | omega) ⟨by first | decide | omega, by first | decide | omega⟩ _ (lv_sub hl [0, 1, 3, 4] rfl)
          · refine lv_if_eq (tgt := 53) hx hb dX11_keysFor_44 (by decide) (fun c55 => ?_) (fun c55 => ?_)
            · obtain ⟨x56, e57⟩ : ∃ y : Int32, y = y3_1 + 1 := ⟨_, rfl⟩
              refine lv_iinc (v := x56) (lv' := [(3, .int x56), (4, .ref b26), (2, .int y2_2), (0, .ref h0), (1, .ref p1)]) hx hb dX11_keysFor_53 hl (k := 1) rfl (by rw [e57]; rfl) (by decide) rfl (fun ls hl => ?_)
              have t58 : x56.toInt = y3_1.toInt + 1 := by rw [e57]; exact hw_add rfl rfl (by omega) (by omega)
              refine lv_goto (tgt := 4) hx hb dX11_keysFor_56 (by decide) ?_
              exact ih4 x56 y2_2 (by first | omega | omega) ⟨by first | decide | omega, by first | decide | omega⟩ _ (lv_sub hl [0, 2, 3, 4] rfl)
            · exact absurd c55 (by decide)
  exact L4 _ 0 0 (Nat.lt_succ_self _) ⟨by first | decide | omega, by first | decide | omega⟩ _ (lv_sub hl [0, 1, 2, 3] rfl)

set_option maxHeartbeats 4000000 in
set_option maxRecDepth 100000 in
theorem k_X11_brokenKeys (l : Launch) (D : hw_D) (G : Nat → Nat) (h0 : Nat) (sz : Nat) (rx : Nat → Nat) (pn_x pc_x ks_x sc_x : Int32) (rc : Nat → Nat) (kc_c lc_c wc_c dk_c : Int32) (G0 : G h0 = 1) (Rx : hw_RX G rx) (gsc_x : 0 ≤ sc_x.toInt ∧ sc_x.toInt ≤ 6) (Rc : hw_RC G rc) (gkc_c : 0 ≤ kc_c.toInt ∧ kc_c.toInt ≤ 7) (glc_c : 0 ≤ lc_c.toInt ∧ lc_c.toInt ≤ 7) (gwc_c : 0 ≤ wc_c.toInt ∧ wc_c.toInt ≤ 3) : Met l yX11_brokenKeys wsX11_brokenKeys ({ frames := 2, cells := 0, slots := 0, locals := 42 } : Room) (hw_PC D G [.ref h0] sz (fun H => va_at D.1 vwCl (h0, .inr (10, hw_LX rx pn_x pc_x ks_x sc_x)) H ∧ va_at D.1 vwCl ((rx 0), .inr (1, hw_LC rc kc_c lc_c wc_c dk_c)) H)) (hw_QR (fun v => ∃ (r : Int32), v = .int r ∧ (kc_c.toInt = 0 → r.toInt = 0))) 0 0 (fun _ => False) := by
  refine hw_met (cc := cX11_brokenKeys) (maxL := 3) (ret := (some .int)) (plainFor_of_name (by decide)) rfl (Nat.le_of_ble_eq_true rfl) ?_
  intro p e s m args below meth c QQ ls hsz hx hb hml hr hts hown hlocks hnm hH hK hST hF hQ hl
  subst hsz
  have hS : va_S (hw_AW G [] s.heap.size) s.heap s.heap [] := va_S.rf
  obtain ⟨vx, vc⟩ := hF
  have hl : lv_has ls 3 [(0, .ref h0)] := hl
  have u_10 : ∀ w ∈ u_ws RX11 TX11 14, w.before args s = true := fun w hw => hts w ((by decide +kernel : ∀ w ∈ u_ws RX11 TX11 14, w ∈ wsX11_brokenKeys) w hw)
  have fg_10_10 : hw_FG s args m 10 10 0 := ⟨RX11, "WardWalkers", RX11, TX11, 14, u_10, hown, rfl, by decide, (hts (.fieldLink RX11 10 "WardWalkers" "country" "LWardWalkers$Country;") (by decide +kernel)), (fun _ h9 => h9)⟩
  have u_1 : ∀ w ∈ u_ws RX1 TX1 7, w.before args s = true := fun w hw => hts w ((by decide +kernel : ∀ w ∈ u_ws RX1 TX1 7, w ∈ wsX11_brokenKeys) w hw)
  have fg_234_1 : hw_FG s args m 234 1 1 := ⟨RX11, "WardWalkers$Country", RX1, TX1, 7, u_1, hown, rfl, by decide, (hts (.fieldLink RX11 234 "WardWalkers$Country" "keyCount" "I") (by decide +kernel)), (fun _ h9 => h9)⟩
  refine lv_iconst (v := 0) hx hb dX11_brokenKeys_0 (by decide) ?_
  refine lv_istore_n (lv' := [(1, .int 0), (0, .ref h0)]) hx hb dX11_brokenKeys_1 rfl hl (by decide) rfl (fun ls hl => ?_)
  refine lv_iconst (v := 0) hx hb dX11_brokenKeys_2 (by decide) ?_
  refine lv_istore_n (lv' := [(2, .int 0), (1, .int 0), (0, .ref h0)]) hx hb dX11_brokenKeys_3 rfl hl (by decide) rfl (fun ls hl => ?_)
  have L4 : ∀ (n4 : Nat) (y2_1 : Int32) (y1_2 : Int32) (hm : (7 - y2_1.toInt).toNat < n4) (g3 : 0 ≤ y2_1.toInt ∧ y2_1.toInt ≤ 7) (inv4_0 : kc_c.toInt = 0 → y1_2.toInt = 0) (ls : Array Slot) (hl : lv_has ls 3 [(2, .int y2_1), (1, .int y1_2), (0, .ref h0)]), W p l e ({ frames := 2, cells := 0, slots := 0, locals := 42 } : Room) s m args below meth c s.heap [] 0 0 QQ (F0 m 4 ls []) := by
    intro n4
    induction n4 with
    | zero => intro y2_1 y1_2 hm; exact absurd hm (Nat.not_lt_zero _)
    | succ n4 ih4 =>
      intro y2_1 y1_2 hm g3 inv4_0 ls hl
      refine lv_iload_n hx hb dX11_brokenKeys_4 rfl (lv_at hl 0 rfl) ?_
      refine lv_aload_n hx hb dX11_brokenKeys_5 rfl (lv_at hl 2 rfl) ?_
      refine hw_get hx hb fg_10_10 hK vx rfl dX11_brokenKeys_6 ?_
      refine hw_get hx hb fg_234_1 hK vc rfl dX11_brokenKeys_9 ?_
      refine lv_icmp_ge (tgt := 35) hx hb dX11_brokenKeys_12 (by decide) (fun c5 => ?_) (fun c5 => ?_)
      · have b6 : kc_c.toInt ≤ y2_1.toInt := hw_ile c5
        refine lv_iload_n hx hb dX11_brokenKeys_35 rfl (lv_at hl 1 rfl) ?_
        exact hw_iretR (v := y1_2) hx hb hr hlocks hQ rfl (⟨y1_2, rfl, (by first | rfl | trivial | assumption | omega | (intros; first | rfl | assumption | omega | (exfalso; omega)))⟩) dX11_brokenKeys_36
      · have b7 : y2_1.toInt < kc_c.toInt := hw_inle c5
        refine lv_aload_n hx hb dX11_brokenKeys_15 rfl (lv_at hl 2 rfl) ?_
        refine lv_iload_n hx hb dX11_brokenKeys_16 rfl (lv_at hl 0 rfl) ?_
        refine hw_cR (va_runV (As := [.int y2_1]) (rest := []) ⟨hx, hb, hml, hown, hts⟩ (k_X11_isBroken l D G h0 y2_1 _ G0) (cwV 1 hts gX11_brokenKeys_X11_isBroken rfl rfl rfl (by decide +kernel) ⟨Nat.le_of_ble_eq_true rfl, Nat.le_of_ble_eq_true rfl⟩) (hw_pV (hw_rc (q := (RX11, TX11, 14)) hK vx rfl) hH hK hST hS (by decide) (fun _ h => Or.inl h) trivial) rfl rfl hl.1 rfl (lv_room (Nat.le_of_ble_eq_true rfl)) dX11_brokenKeys_17 ⟨Nat.le_of_ble_eq_true rfl, Nat.le_of_ble_eq_true rfl⟩) (fun v hp => ?_)
        rcases hp with rfl | rfl
        · refine lv_if_eq (tgt := 29) hx hb dX11_brokenKeys_20 (by decide) (fun c8 => ?_) (fun c8 => ?_)
          · exact absurd c8 (by decide)
          · refine lv_iload_n hx hb dX11_brokenKeys_23 rfl (lv_at hl 1 rfl) ?_
            refine lv_iconst (v := 1) hx hb dX11_brokenKeys_24 (by decide) ?_
            refine lv_iload_n hx hb dX11_brokenKeys_25 rfl (lv_at hl 0 rfl) ?_
            refine lv_ishl hx hb dX11_brokenKeys_26 ?_
            refine lv_topi (fun x9 e10 => ?_)
            have t11 : 1 ≤ x9.toInt ∧ x9.toInt ≤ 64 := by rw [e10]; exact hw_sh1b 6 (by decide) (by first | decide | omega) (by first | decide | omega)
            refine lv_ior hx hb dX11_brokenKeys_27 ?_
            refine lv_topi (fun x12 e13 => ?_)
            refine lv_istore_n (lv' := [(1, .int x12), (2, .int y2_1), (0, .ref h0)]) hx hb dX11_brokenKeys_28 rfl hl (by decide) rfl (fun ls hl => ?_)
            obtain ⟨x14, e15⟩ : ∃ y : Int32, y = y2_1 + 1 := ⟨_, rfl⟩
            refine lv_iinc (v := x14) (lv' := [(2, .int x14), (1, .int x12), (0, .ref h0)]) hx hb dX11_brokenKeys_29 hl (k := 1) rfl (by rw [e15]; rfl) (by decide) rfl (fun ls hl => ?_)
            have t16 : x14.toInt = y2_1.toInt + 1 := by rw [e15]; exact hw_add rfl rfl (by omega) (by omega)
            refine lv_goto (tgt := 4) hx hb dX11_brokenKeys_32 (by decide) ?_
            exact ih4 x14 x12 (by first | omega | omega) ⟨by first | decide | omega, by first | decide | omega⟩ (by first | assumption | omega | decide | rfl | (intros; first | rfl | assumption | omega)) _ (lv_sub hl [0, 1, 2] rfl)
        · refine lv_if_eq (tgt := 29) hx hb dX11_brokenKeys_20 (by decide) (fun c17 => ?_) (fun c17 => ?_)
          · obtain ⟨x18, e19⟩ : ∃ y : Int32, y = y2_1 + 1 := ⟨_, rfl⟩
            refine lv_iinc (v := x18) (lv' := [(2, .int x18), (1, .int y1_2), (0, .ref h0)]) hx hb dX11_brokenKeys_29 hl (k := 0) rfl (by rw [e19]; rfl) (by decide) rfl (fun ls hl => ?_)
            have t20 : x18.toInt = y2_1.toInt + 1 := by rw [e19]; exact hw_add rfl rfl (by omega) (by omega)
            refine lv_goto (tgt := 4) hx hb dX11_brokenKeys_32 (by decide) ?_
            exact ih4 x18 y1_2 (by first | omega | omega) ⟨by first | decide | omega, by first | decide | omega⟩ (by first | assumption | omega | decide | rfl | (intros; first | rfl | assumption | omega)) _ (lv_sub hl [0, 1, 2] rfl)
          · exact absurd c17 (by decide)
  exact L4 _ 0 0 (Nat.lt_succ_self _) ⟨by first | decide | omega, by first | decide | omega⟩ (by first | assumption | omega | decide | rfl | (intros; first | rfl | assumption | omega)) _ (lv_sub hl [0, 1, 2] rfl)

set_option maxHeartbeats 4000000 in
set_option maxRecDepth 100000 in
theorem k_X11_latestMinute (l : Launch) (D : hw_D) (G : Nat → Nat) (h0 : Nat) (sz : Nat) (rx : Nat → Nat) (pn_x pc_x ks_x sc_x : Int32) (rc : Nat → Nat) (kc_c lc_c wc_c dk_c : Int32) (G0 : G h0 = 1) (Rx : hw_RX G rx) (gsc_x : 0 ≤ sc_x.toInt ∧ sc_x.toInt ≤ 6) (Rc : hw_RC G rc) (gkc_c : 0 ≤ kc_c.toInt ∧ kc_c.toInt ≤ 7) (glc_c : 0 ≤ lc_c.toInt ∧ lc_c.toInt ≤ 7) (gwc_c : 0 ≤ wc_c.toInt ∧ wc_c.toInt ≤ 3) : Met l yX11_latestMinute wsX11_latestMinute ({ frames := 1, cells := 0, slots := 0, locals := 21 } : Room) (hw_PC D G [.ref h0] sz (fun H => va_at D.1 vwCl (h0, .inr (10, hw_LX rx pn_x pc_x ks_x sc_x)) H ∧ va_at D.1 vwCl ((rx 0), .inr (1, hw_LC rc kc_c lc_c wc_c dk_c)) H)) (hw_QR (fun v => ∃ (r : Int32), v = .int r ∧ (wc_c.toInt = 0 → r.toInt = 0))) 0 0 (fun _ => False) := by
  refine hw_met (cc := cX11_latestMinute) (maxL := 3) (ret := (some .int)) (plainFor_of_name (by decide)) rfl (Nat.le_of_ble_eq_true rfl) ?_
  intro p e s m args below meth c QQ ls hsz hx hb hml hr hts hown hlocks hnm hH hK hST hF hQ hl
  subst hsz
  have hS : va_S (hw_AW G [] s.heap.size) s.heap s.heap [] := va_S.rf
  obtain ⟨vx, vc⟩ := hF
  have hl : lv_has ls 3 [(0, .ref h0)] := hl
  have u_10 : ∀ w ∈ u_ws RX11 TX11 14, w.before args s = true := fun w hw => hts w ((by decide +kernel : ∀ w ∈ u_ws RX11 TX11 14, w ∈ wsX11_latestMinute) w hw)
  have fg_10_10 : hw_FG s args m 10 10 0 := ⟨RX11, "WardWalkers", RX11, TX11, 14, u_10, hown, rfl, by decide, (hts (.fieldLink RX11 10 "WardWalkers" "country" "LWardWalkers$Country;") (by decide +kernel)), (fun _ h9 => h9)⟩
  have u_1 : ∀ w ∈ u_ws RX1 TX1 7, w.before args s = true := fun w hw => hts w ((by decide +kernel : ∀ w ∈ u_ws RX1 TX1 7, w ∈ wsX11_latestMinute) w hw)
  have fg_262_1 : hw_FG s args m 262 1 5 := ⟨RX11, "WardWalkers$Country", RX1, TX1, 7, u_1, hown, rfl, by decide, (hts (.fieldLink RX11 262 "WardWalkers$Country" "walkerCount" "I") (by decide +kernel)), (fun _ h9 => h9)⟩
  have fg_26_10 : hw_FG s args m 26 10 2 := ⟨RX11, "WardWalkers", RX11, TX11, 14, u_10, hown, rfl, by decide, (hts (.fieldLink RX11 26 "WardWalkers" "now" "LWardWalkers$Standing;") (by decide +kernel)), (fun _ h9 => h9)⟩
  refine lv_iconst (v := 0) hx hb dX11_latestMinute_0 (by decide) ?_
  refine lv_istore_n (lv' := [(1, .int 0), (0, .ref h0)]) hx hb dX11_latestMinute_1 rfl hl (by decide) rfl (fun ls hl => ?_)
  refine lv_iconst (v := 0) hx hb dX11_latestMinute_2 (by decide) ?_
  refine lv_istore_n (lv' := [(2, .int 0), (1, .int 0), (0, .ref h0)]) hx hb dX11_latestMinute_3 rfl hl (by decide) rfl (fun ls hl => ?_)
  have L4 : ∀ (n4 : Nat) (y2_1 : Int32) (y1_2 : Int32) (hm : (3 - y2_1.toInt).toNat < n4) (g3 : 0 ≤ y2_1.toInt ∧ y2_1.toInt ≤ 3) (inv4_0 : wc_c.toInt = 0 → y1_2.toInt = 0) (ls : Array Slot) (hl : lv_has ls 3 [(2, .int y2_1), (1, .int y1_2), (0, .ref h0)]), W p l e ({ frames := 1, cells := 0, slots := 0, locals := 21 } : Room) s m args below meth c s.heap [] 0 0 QQ (F0 m 4 ls []) := by
    intro n4
    induction n4 with
    | zero => intro y2_1 y1_2 hm; exact absurd hm (Nat.not_lt_zero _)
    | succ n4 ih4 =>
      intro y2_1 y1_2 hm g3 inv4_0 ls hl
      refine lv_iload_n hx hb dX11_latestMinute_4 rfl (lv_at hl 0 rfl) ?_
      refine lv_aload_n hx hb dX11_latestMinute_5 rfl (lv_at hl 2 rfl) ?_
      refine hw_get hx hb fg_10_10 hK vx rfl dX11_latestMinute_6 ?_
      refine hw_get hx hb fg_262_1 hK vc rfl dX11_latestMinute_9 ?_
      refine lv_icmp_ge (tgt := 34) hx hb dX11_latestMinute_12 (by decide) (fun c5 => ?_) (fun c5 => ?_)
      · have b6 : wc_c.toInt ≤ y2_1.toInt := hw_ile c5
        refine lv_iload_n hx hb dX11_latestMinute_34 rfl (lv_at hl 1 rfl) ?_
        exact hw_iretR (v := y1_2) hx hb hr hlocks hQ rfl (⟨y1_2, rfl, (by first | rfl | trivial | assumption | omega | (intros; first | rfl | assumption | omega | (exfalso; omega)))⟩) dX11_latestMinute_35
      · have b7 : y2_1.toInt < wc_c.toInt := hw_inle c5
        refine lv_iload_n hx hb dX11_latestMinute_15 rfl (lv_at hl 1 rfl) ?_
        refine lv_aload_n hx hb dX11_latestMinute_16 rfl (lv_at hl 2 rfl) ?_
        refine hw_get hx hb fg_26_10 hK vx rfl dX11_latestMinute_17 ?_
        refine lv_iload_n hx hb dX11_latestMinute_20 rfl (lv_at hl 0 rfl) ?_
        obtain ⟨r8, td_9, fd_10, os_11, v12, R13⟩ := hH.oS (hw_RX_2 Rx)
        refine hw_cR (va_runV (As := [.int y2_1]) (rest := [.int y1_2]) ⟨hx, hb, hml, hown, hts⟩ (k_X9_minuteOf l D G (rx 2) y2_1 _ (hw_RX_2 Rx)) (cwV 1 hts gX11_latestMinute_X9_minuteOf rfl rfl rfl (by decide +kernel) ⟨Nat.le_of_ble_eq_true rfl, Nat.le_of_ble_eq_true rfl⟩) (hw_pV (hw_rc (q := (RX9, TX9, 7)) hK v12 rfl) hH hK hST hS (by decide) (fun _ h => Or.inl h) trivial) rfl rfl hl.1 rfl (lv_room (Nat.le_of_ble_eq_true rfl)) dX11_latestMinute_21 ⟨Nat.le_of_ble_eq_true rfl, Nat.le_of_ble_eq_true rfl⟩) (fun v hp => ?_)
        obtain ⟨x14, rfl⟩ := hp
        refine va_mmax hx hb (hml.trans hl.1.symm) hown (hts (.methodLink RX11 414 Lib.Math.max.name) (by decide +kernel)) (hts (.static Lib.Math.max.name) (by decide +kernel)) (hts (.initialized "java/lang/Math") (by decide +kernel)) (hts (.code Lib.Math.max.name Lib.Math.max.code 2 (some .int)) (by decide +kernel)) (Nat.le_of_ble_eq_true rfl) (Nat.le_of_ble_eq_true rfl) (Nat.le_of_ble_eq_true rfl) (Nat.le_of_ble_eq_true rfl) dX11_latestMinute_24 ?_
        refine lv_topi (fun x15 e16 => ?_)
        have t17 : x15.toInt = max y1_2.toInt x14.toInt := by rw [e16]; exact hw_max rfl rfl
        refine lv_istore_n (lv' := [(1, .int x15), (2, .int y2_1), (0, .ref h0)]) hx hb dX11_latestMinute_27 rfl hl (by decide) rfl (fun ls hl => ?_)
        obtain ⟨x18, e19⟩ : ∃ y : Int32, y = y2_1 + 1 := ⟨_, rfl⟩
        refine lv_iinc (v := x18) (lv' := [(2, .int x18), (1, .int x15), (0, .ref h0)]) hx hb dX11_latestMinute_28 hl (k := 1) rfl (by rw [e19]; rfl) (by decide) rfl (fun ls hl => ?_)
        have t20 : x18.toInt = y2_1.toInt + 1 := by rw [e19]; exact hw_add rfl rfl (by omega) (by omega)
        refine lv_goto (tgt := 4) hx hb dX11_latestMinute_31 (by decide) ?_
        exact ih4 x18 x15 (by first | omega | omega) ⟨by first | decide | omega, by first | decide | omega⟩ (by first | assumption | omega | decide | rfl | (intros; first | rfl | assumption | omega)) _ (lv_sub hl [0, 1, 2] rfl)
  exact L4 _ 0 0 (Nat.lt_succ_self _) ⟨by first | decide | omega, by first | decide | omega⟩ (by first | assumption | omega | decide | rfl | (intros; first | rfl | assumption | omega)) _ (lv_sub hl [0, 1, 2] rfl)

set_option maxHeartbeats 4000000 in
set_option maxRecDepth 100000 in
theorem k_X11_usableKeysFor (l : Launch) (D : hw_D) (G : Nat → Nat) (h0 : Nat) (p1 : Int32) (sz : Nat) (rx : Nat → Nat) (pn_x pc_x ks_x sc_x : Int32) (rc : Nat → Nat) (kc_c lc_c wc_c dk_c : Int32) (G0 : G h0 = 1) (Rx : hw_RX G rx) (gsc_x : 0 ≤ sc_x.toInt ∧ sc_x.toInt ≤ 6) (Rc : hw_RC G rc) (gkc_c : 0 ≤ kc_c.toInt ∧ kc_c.toInt ≤ 7) (glc_c : 0 ≤ lc_c.toInt ∧ lc_c.toInt ≤ 7) (gwc_c : 0 ≤ wc_c.toInt ∧ wc_c.toInt ≤ 3) : Met l yX11_usableKeysFor wsX11_usableKeysFor ({ frames := 5, cells := 0, slots := 0, locals := 113 } : Room) (hw_PC D G [.ref h0, .int p1] sz (fun H => va_at D.1 vwCl (h0, .inr (10, hw_LX rx pn_x pc_x ks_x sc_x)) H ∧ va_at D.1 vwCl ((rx 0), .inr (1, hw_LC rc kc_c lc_c wc_c dk_c)) H)) (hw_QR (fun v => ∃ (r : Int32), v = .int r ∧ (lc_c.toInt = 0 → r.toInt = 0))) 0 0 (fun _ => False) := by
  refine hw_met (cc := cX11_usableKeysFor) (maxL := 3) (ret := (some .int)) (plainFor_of_name (by decide)) rfl (Nat.le_of_ble_eq_true rfl) ?_
  intro p e s m args below meth c QQ ls hsz hx hb hml hr hts hown hlocks hnm hH hK hST hF hQ hl
  subst hsz
  have hS : va_S (hw_AW G [] s.heap.size) s.heap s.heap [] := va_S.rf
  obtain ⟨vx, vc⟩ := hF
  have hl : lv_has ls 3 [(0, .ref h0), (1, .int p1)] := hl
  have u_10 : ∀ w ∈ u_ws RX11 TX11 14, w.before args s = true := fun w hw => hts w ((by decide +kernel : ∀ w ∈ u_ws RX11 TX11 14, w ∈ wsX11_usableKeysFor) w hw)
  have fg_10_10 : hw_FG s args m 10 10 0 := ⟨RX11, "WardWalkers", RX11, TX11, 14, u_10, hown, rfl, by decide, (hts (.fieldLink RX11 10 "WardWalkers" "country" "LWardWalkers$Country;") (by decide +kernel)), (fun _ h9 => h9)⟩
  have fg_26_10 : hw_FG s args m 26 10 2 := ⟨RX11, "WardWalkers", RX11, TX11, 14, u_10, hown, rfl, by decide, (hts (.fieldLink RX11 26 "WardWalkers" "now" "LWardWalkers$Standing;") (by decide +kernel)), (fun _ h9 => h9)⟩
  refine lv_aload_n hx hb dX11_usableKeysFor_0 rfl (lv_at hl 0 rfl) ?_
  refine hw_get hx hb fg_10_10 hK vx rfl dX11_usableKeysFor_1 ?_
  refine lv_iload_n hx hb dX11_usableKeysFor_4 rfl (lv_at hl 1 rfl) ?_
  refine hw_cR (va_runV (As := [.int p1]) (rest := []) ⟨hx, hb, hml, hown, hts⟩ (k_X1_lockAt l D G (rx 0) p1 _ rc kc_c lc_c wc_c dk_c (hw_RX_0 Rx) Rc ⟨by first | decide | omega, by first | decide | omega⟩ ⟨by first | decide | omega, by first | decide | omega⟩ ⟨by first | decide | omega, by first | decide | omega⟩) (cwV 1 hts gX11_usableKeysFor_X1_lockAt rfl rfl rfl (by decide +kernel) ⟨Nat.le_of_ble_eq_true rfl, Nat.le_of_ble_eq_true rfl⟩) (hw_pV (hw_rc (q := (RX1, TX1, 7)) hK vc rfl) hH hK hST hS (by decide) (fun _ h => Or.inl h) vc) rfl rfl hl.1 rfl (lv_room (Nat.le_of_ble_eq_true rfl)) dX11_usableKeysFor_5 ⟨Nat.le_of_ble_eq_true rfl, Nat.le_of_ble_eq_true rfl⟩) (fun v hp => ?_)
  rcases hp with rfl | ⟨b1, rfl, k2, q3⟩
  · refine lv_astore_nN (lv' := [(2, .null), (0, .ref h0), (1, .int p1)]) hx hb dX11_usableKeysFor_8 rfl hl (by decide) rfl (fun ls hl => ?_)
    refine lv_aload_nN hx hb dX11_usableKeysFor_9 rfl (lv_at hl 0 rfl) ?_
    refine lv_ifnullN (tgt := 24) hx hb dX11_usableKeysFor_10 (by decide) ?_
    refine lv_iconst (v := 0) hx hb dX11_usableKeysFor_24 (by decide) ?_
    refine lv_goto (tgt := 40) hx hb dX11_usableKeysFor_25 (by decide) ?_
    exact hw_iretR (v := 0) hx hb hr hlocks hQ rfl (⟨0, rfl, (by first | rfl | trivial | assumption | omega | (intros; first | rfl | assumption | omega | (exfalso; omega)))⟩) dX11_usableKeysFor_40
  · refine lv_astore_n (lv' := [(2, .ref b1), (0, .ref h0), (1, .int p1)]) hx hb dX11_usableKeysFor_8 rfl hl (by decide) rfl (fun ls hl => ?_)
    refine lv_aload_n hx hb dX11_usableKeysFor_9 rfl (lv_at hl 0 rfl) ?_
    refine lv_ifnull hx hb dX11_usableKeysFor_10 ?_
    refine lv_aload_n hx hb dX11_usableKeysFor_13 rfl (lv_at hl 1 rfl) ?_
    refine hw_get hx hb fg_26_10 hK vx rfl dX11_usableKeysFor_14 ?_
    refine lv_iload_n hx hb dX11_usableKeysFor_17 rfl (lv_at hl 2 rfl) ?_
    obtain ⟨r4, td_5, fd_6, os_7, v8, R9⟩ := hH.oS (hw_RX_2 Rx)
    refine hw_cR (va_runV (As := [.int p1]) (rest := []) ⟨hx, hb, hml, hown, hts⟩ (k_X9_isOpen l D G (rx 2) p1 _ (hw_RX_2 Rx)) (cwV 1 hts gX11_usableKeysFor_X9_isOpen rfl rfl rfl (by decide +kernel) ⟨Nat.le_of_ble_eq_true rfl, Nat.le_of_ble_eq_true rfl⟩) (hw_pV (hw_rc (q := (RX9, TX9, 7)) hK v8 rfl) hH hK hST hS (by decide) (fun _ h => Or.inl h) trivial) rfl rfl hl.1 rfl (lv_room (Nat.le_of_ble_eq_true rfl)) dX11_usableKeysFor_18 ⟨Nat.le_of_ble_eq_true rfl, Nat.le_of_ble_eq_true rfl⟩) (fun v hp => ?_)
    rcases hp with rfl | rfl
    · refine lv_if_eq (tgt := 28) hx hb dX11_usableKeysFor_21 (by decide) (fun c10 => ?_) (fun c10 => ?_)
      · exact absurd c10 (by decide)
      · refine lv_iconst (v := 0) hx hb dX11_usableKeysFor_24 (by decide) ?_
        refine lv_goto (tgt := 40) hx hb dX11_usableKeysFor_25 (by decide) ?_
        exact hw_iretR (v := 0) hx hb hr hlocks hQ rfl (⟨0, rfl, (by first | rfl | trivial | assumption | omega | (intros; first | rfl | assumption | omega | (exfalso; omega)))⟩) dX11_usableKeysFor_40
    · refine lv_if_eq (tgt := 28) hx hb dX11_usableKeysFor_21 (by decide) (fun c11 => ?_) (fun c11 => ?_)
      · refine lv_aload_n hx hb dX11_usableKeysFor_28 rfl (lv_at hl 1 rfl) ?_
        refine lv_aload_n hx hb dX11_usableKeysFor_29 rfl (lv_at hl 0 rfl) ?_
        refine hw_cR (va_runV (As := [.ref b1]) (rest := []) ⟨hx, hb, hml, hown, hts⟩ (k_X11_keysFor l D G h0 b1 _ G0 k2) (cwV 1 hts gX11_usableKeysFor_X11_keysFor rfl rfl rfl (by decide +kernel) ⟨Nat.le_of_ble_eq_true rfl, Nat.le_of_ble_eq_true rfl⟩) (hw_pV (hw_rc (q := (RX11, TX11, 14)) hK vx rfl) hH hK hST hS (by decide) (fun _ h => Or.inl h) trivial) rfl rfl hl.1 rfl (lv_room (Nat.le_of_ble_eq_true rfl)) dX11_usableKeysFor_30 ⟨Nat.le_of_ble_eq_true rfl, Nat.le_of_ble_eq_true rfl⟩) (fun v hp => ?_)
        obtain ⟨x12, rfl⟩ := hp
        refine lv_aload_n hx hb dX11_usableKeysFor_33 rfl (lv_at hl 1 rfl) ?_
        refine hw_cR (va_runV (As := []) (rest := [.int x12]) ⟨hx, hb, hml, hown, hts⟩ (k_X11_brokenKeys l D G h0 _ rx pn_x pc_x ks_x sc_x rc kc_c lc_c wc_c dk_c G0 Rx ⟨by first | decide | omega, by first | decide | omega⟩ Rc ⟨by first | decide | omega, by first | decide | omega⟩ ⟨by first | decide | omega, by first | decide | omega⟩ ⟨by first | decide | omega, by first | decide | omega⟩) (cwV 0 hts gX11_usableKeysFor_X11_brokenKeys rfl rfl rfl (by decide +kernel) ⟨Nat.le_of_ble_eq_true rfl, Nat.le_of_ble_eq_true rfl⟩) (hw_pV (hw_rc (q := (RX11, TX11, 14)) hK vx rfl) hH hK hST hS (by decide) (fun _ h => Or.inl h) ⟨vx, vc⟩) rfl rfl hl.1 rfl (lv_room (Nat.le_of_ble_eq_true rfl)) dX11_usableKeysFor_34 ⟨Nat.le_of_ble_eq_true rfl, Nat.le_of_ble_eq_true rfl⟩) (fun v hp => ?_)
        obtain ⟨x13, rfl, q14⟩ := hp
        refine lv_iconst (v := (-1)) hx hb dX11_usableKeysFor_37 (by decide) ?_
        refine lv_ixor hx hb dX11_usableKeysFor_38 ?_
        refine lv_topi (fun x15 e16 => ?_)
        refine lv_iand hx hb dX11_usableKeysFor_39 ?_
        refine lv_topi (fun x17 e18 => ?_)
        exact hw_iretR (v := x17) hx hb hr hlocks hQ rfl (⟨x17, rfl, (by first | rfl | trivial | assumption | omega | (intros; first | rfl | assumption | omega | (exfalso; omega)))⟩) dX11_usableKeysFor_40
      · exact absurd c11 (by decide)

set_option maxHeartbeats 4000000 in
set_option maxRecDepth 100000 in
theorem k_X11_areTwins (l : Launch) (D : hw_D) (G : Nat → Nat) (h0 : Nat) (p1 : Int32) (p2 : Int32) (sz : Nat) (G0 : G h0 = 1) : Met l yX11_areTwins wsX11_areTwins ({ frames := 5, cells := 0, slots := 0, locals := 114 } : Room) (hw_PC D G [.ref h0, .int p1, .int p2] sz (fun H => True)) (hw_QR (fun v => (v = .int 1) ∨ (v = .int 0))) 0 0 (fun _ => False) := by
  refine hw_met (cc := cX11_areTwins) (maxL := 6) (ret := (some .boolean)) (plainFor_of_name (by decide)) rfl (Nat.le_of_ble_eq_true rfl) ?_
  intro p e s m args below meth c QQ ls hsz hx hb hml hr hts hown hlocks hnm hH hK hST hF hQ hl
  subst hsz
  have hS : va_S (hw_AW G [] s.heap.size) s.heap s.heap [] := va_S.rf
  have hl : lv_has ls 6 [(0, .ref h0), (1, .int p1), (2, .int p2)] := hl
  have u_10 : ∀ w ∈ u_ws RX11 TX11 14, w.before args s = true := fun w hw => hts w ((by decide +kernel : ∀ w ∈ u_ws RX11 TX11 14, w ∈ wsX11_areTwins) w hw)
  have fg_10_10 : hw_FG s args m 10 10 0 := ⟨RX11, "WardWalkers", RX11, TX11, 14, u_10, hown, rfl, by decide, (hts (.fieldLink RX11 10 "WardWalkers" "country" "LWardWalkers$Country;") (by decide +kernel)), (fun _ h9 => h9)⟩
  have fg_26_10 : hw_FG s args m 26 10 2 := ⟨RX11, "WardWalkers", RX11, TX11, 14, u_10, hown, rfl, by decide, (hts (.fieldLink RX11 26 "WardWalkers" "now" "LWardWalkers$Standing;") (by decide +kernel)), (fun _ h9 => h9)⟩
  refine lv_aload_n hx hb dX11_areTwins_0 rfl (lv_at hl 0 rfl) ?_
  obtain ⟨r1, pn_2, pc_3, ks_4, sc_5, v6, R7, g8⟩ := hH.oX G0
  refine hw_get hx hb fg_10_10 hK v6 rfl dX11_areTwins_1 ?_
  refine lv_iload_n hx hb dX11_areTwins_4 rfl (lv_at hl 1 rfl) ?_
  obtain ⟨r9, kc_10, lc_11, wc_12, dk_13, v14, R15, g16, g17, g18⟩ := hH.oC (hw_RX_0 R7)
  refine hw_cR (va_runV (As := [.int p1]) (rest := []) ⟨hx, hb, hml, hown, hts⟩ (k_X1_keyAt l D G (r1 0) p1 _ r9 kc_10 lc_11 wc_12 dk_13 (hw_RX_0 R7) R15 ⟨by first | decide | omega, by first | decide | omega⟩ ⟨by first | decide | omega, by first | decide | omega⟩ ⟨by first | decide | omega, by first | decide | omega⟩) (cwV 1 hts gX11_areTwins_X1_keyAt rfl rfl rfl (by decide +kernel) ⟨Nat.le_of_ble_eq_true rfl, Nat.le_of_ble_eq_true rfl⟩) (hw_pV (hw_rc (q := (RX1, TX1, 7)) hK v14 rfl) hH hK hST hS (by decide) (fun _ h => Or.inl h) v14) rfl rfl hl.1 rfl (lv_room (Nat.le_of_ble_eq_true rfl)) dX11_areTwins_5 ⟨Nat.le_of_ble_eq_true rfl, Nat.le_of_ble_eq_true rfl⟩) (fun v hp => ?_)
  rcases hp with rfl | ⟨b19, rfl, k20, q21⟩
  · refine lv_astore_nN (lv' := [(3, .null), (0, .ref h0), (1, .int p1), (2, .int p2)]) hx hb dX11_areTwins_8 rfl hl (by decide) rfl (fun ls hl => ?_)
    refine lv_aload_n hx hb dX11_areTwins_9 rfl (lv_at hl 1 rfl) ?_
    refine hw_get hx hb fg_10_10 hK v6 rfl dX11_areTwins_10 ?_
    refine lv_iload_n hx hb dX11_areTwins_13 rfl (lv_at hl 3 rfl) ?_
    refine hw_cR (va_runV (As := [.int p2]) (rest := []) ⟨hx, hb, hml, hown, hts⟩ (k_X1_keyAt l D G (r1 0) p2 _ r9 kc_10 lc_11 wc_12 dk_13 (hw_RX_0 R7) R15 ⟨by first | decide | omega, by first | decide | omega⟩ ⟨by first | decide | omega, by first | decide | omega⟩ ⟨by first | decide | omega, by first | decide | omega⟩) (cwV 1 hts gX11_areTwins_X1_keyAt rfl rfl rfl (by decide +kernel) ⟨Nat.le_of_ble_eq_true rfl, Nat.le_of_ble_eq_true rfl⟩) (hw_pV (hw_rc (q := (RX1, TX1, 7)) hK v14 rfl) hH hK hST hS (by decide) (fun _ h => Or.inl h) v14) rfl rfl hl.1 rfl (lv_room (Nat.le_of_ble_eq_true rfl)) dX11_areTwins_14 ⟨Nat.le_of_ble_eq_true rfl, Nat.le_of_ble_eq_true rfl⟩) (fun v hp => ?_)
    rcases hp with rfl | ⟨b22, rfl, k23, q24⟩
    · refine lv_astoreN (lv' := [(4, .null), (3, .null), (0, .ref h0), (1, .int p1), (2, .int p2)]) hx hb dX11_areTwins_17 hl (by decide) rfl (fun ls hl => ?_)
      refine lv_aload_nN hx hb dX11_areTwins_19 rfl (lv_at hl 1 rfl) ?_
      refine lv_ifnullN (tgt := 28) hx hb dX11_areTwins_20 (by decide) ?_
      refine lv_iconst (v := 0) hx hb dX11_areTwins_28 (by decide) ?_
      exact hw_iretR (v := 0) hx hb hr hlocks hQ rfl (Or.inr (rfl)) dX11_areTwins_29
    · refine lv_astore (lv' := [(4, .ref b22), (3, .null), (0, .ref h0), (1, .int p1), (2, .int p2)]) hx hb dX11_areTwins_17 hl (by decide) rfl (fun ls hl => ?_)
      refine lv_aload_nN hx hb dX11_areTwins_19 rfl (lv_at hl 1 rfl) ?_
      refine lv_ifnullN (tgt := 28) hx hb dX11_areTwins_20 (by decide) ?_
      refine lv_iconst (v := 0) hx hb dX11_areTwins_28 (by decide) ?_
      exact hw_iretR (v := 0) hx hb hr hlocks hQ rfl (Or.inr (rfl)) dX11_areTwins_29
  · refine lv_astore_n (lv' := [(3, .ref b19), (0, .ref h0), (1, .int p1), (2, .int p2)]) hx hb dX11_areTwins_8 rfl hl (by decide) rfl (fun ls hl => ?_)
    refine lv_aload_n hx hb dX11_areTwins_9 rfl (lv_at hl 1 rfl) ?_
    refine hw_get hx hb fg_10_10 hK v6 rfl dX11_areTwins_10 ?_
    refine lv_iload_n hx hb dX11_areTwins_13 rfl (lv_at hl 3 rfl) ?_
    refine hw_cR (va_runV (As := [.int p2]) (rest := []) ⟨hx, hb, hml, hown, hts⟩ (k_X1_keyAt l D G (r1 0) p2 _ r9 kc_10 lc_11 wc_12 dk_13 (hw_RX_0 R7) R15 ⟨by first | decide | omega, by first | decide | omega⟩ ⟨by first | decide | omega, by first | decide | omega⟩ ⟨by first | decide | omega, by first | decide | omega⟩) (cwV 1 hts gX11_areTwins_X1_keyAt rfl rfl rfl (by decide +kernel) ⟨Nat.le_of_ble_eq_true rfl, Nat.le_of_ble_eq_true rfl⟩) (hw_pV (hw_rc (q := (RX1, TX1, 7)) hK v14 rfl) hH hK hST hS (by decide) (fun _ h => Or.inl h) v14) rfl rfl hl.1 rfl (lv_room (Nat.le_of_ble_eq_true rfl)) dX11_areTwins_14 ⟨Nat.le_of_ble_eq_true rfl, Nat.le_of_ble_eq_true rfl⟩) (fun v hp => ?_)
    rcases hp with rfl | ⟨b25, rfl, k26, q27⟩
    · refine lv_astoreN (lv' := [(4, .null), (3, .ref b19), (0, .ref h0), (1, .int p1), (2, .int p2)]) hx hb dX11_areTwins_17 hl (by decide) rfl (fun ls hl => ?_)
      refine lv_aload_n hx hb dX11_areTwins_19 rfl (lv_at hl 1 rfl) ?_
      refine lv_ifnull hx hb dX11_areTwins_20 ?_
      refine lv_aloadN hx hb dX11_areTwins_23 (lv_at hl 0 rfl) ?_
      refine lv_ifnonnullN hx hb dX11_areTwins_25 ?_
      refine lv_iconst (v := 0) hx hb dX11_areTwins_28 (by decide) ?_
      exact hw_iretR (v := 0) hx hb hr hlocks hQ rfl (Or.inr (rfl)) dX11_areTwins_29
    · refine lv_astore (lv' := [(4, .ref b25), (3, .ref b19), (0, .ref h0), (1, .int p1), (2, .int p2)]) hx hb dX11_areTwins_17 hl (by decide) rfl (fun ls hl => ?_)
      refine lv_aload_n hx hb dX11_areTwins_19 rfl (lv_at hl 1 rfl) ?_
      refine lv_ifnull hx hb dX11_areTwins_20 ?_
      refine lv_aload hx hb dX11_areTwins_23 (lv_at hl 0 rfl) ?_
      refine lv_ifnonnull (tgt := 30) hx hb dX11_areTwins_25 (by decide) ?_
      refine lv_aload_n hx hb dX11_areTwins_30 rfl (lv_at hl 2 rfl) ?_
      refine lv_aload_n hx hb dX11_areTwins_31 rfl (lv_at hl 1 rfl) ?_
      refine lv_aload_n hx hb dX11_areTwins_32 rfl (lv_at hl 2 rfl) ?_
      refine hw_get hx hb fg_26_10 hK v6 rfl dX11_areTwins_33 ?_
      refine lv_iload_n hx hb dX11_areTwins_36 rfl (lv_at hl 3 rfl) ?_
      obtain ⟨r28, td_29, fd_30, os_31, v32, R33⟩ := hH.oS (hw_RX_2 R7)
      refine hw_cR (va_runV (As := [.int p1]) (rest := [.ref b19, .ref h0]) ⟨hx, hb, hml, hown, hts⟩ (k_X9_bentOf l D G (r1 2) p1 _ (hw_RX_2 R7)) (cwV 1 hts gX11_areTwins_X9_bentOf rfl rfl rfl (by decide +kernel) ⟨Nat.le_of_ble_eq_true rfl, Nat.le_of_ble_eq_true rfl⟩) (hw_pV (hw_rc (q := (RX9, TX9, 7)) hK v32 rfl) hH hK hST hS (by decide) (fun _ h => Or.inl h) trivial) rfl rfl hl.1 rfl (lv_room (Nat.le_of_ble_eq_true rfl)) dX11_areTwins_37 ⟨Nat.le_of_ble_eq_true rfl, Nat.le_of_ble_eq_true rfl⟩) (fun v hp => ?_)
      obtain ⟨x34, rfl⟩ := hp
      refine hw_cR (va_runV (As := [.ref b19, .int x34]) (rest := []) ⟨hx, hb, hml, hown, hts⟩ (k_X11_locksFor l D G h0 b19 x34 _ G0 k20) (cwV 2 hts gX11_areTwins_X11_locksFor rfl rfl rfl (by decide +kernel) ⟨Nat.le_of_ble_eq_true rfl, Nat.le_of_ble_eq_true rfl⟩) (hw_pV (hw_rc (q := (RX11, TX11, 14)) hK v6 rfl) hH hK hST hS (by decide) (fun _ h => Or.inl h) trivial) rfl rfl hl.1 rfl (lv_room (Nat.le_of_ble_eq_true rfl)) dX11_areTwins_40 ⟨Nat.le_of_ble_eq_true rfl, Nat.le_of_ble_eq_true rfl⟩) (fun v hp => ?_)
      obtain ⟨x35, rfl⟩ := hp
      refine lv_istore (lv' := [(5, .int x35), (4, .ref b25), (3, .ref b19), (0, .ref h0), (1, .int p1), (2, .int p2)]) hx hb dX11_areTwins_43 hl (by decide) rfl (fun ls hl => ?_)
      refine lv_iload hx hb dX11_areTwins_45 (lv_at hl 0 rfl) ?_
      refine lv_if_eq (tgt := 73) hx hb dX11_areTwins_47 (by decide) (fun c36 => ?_) (fun c36 => ?_)
      · have b37 : x35.toInt = 0 := hw_ieq c36
        refine lv_iconst (v := 0) hx hb dX11_areTwins_73 (by decide) ?_
        exact hw_iretR (v := 0) hx hb hr hlocks hQ rfl (Or.inr (rfl)) dX11_areTwins_74
      · have b38 : x35.toInt ≠ 0 := hw_ine c36
        refine lv_iload hx hb dX11_areTwins_50 (lv_at hl 0 rfl) ?_
        refine lv_aload_n hx hb dX11_areTwins_52 rfl (lv_at hl 3 rfl) ?_
        refine lv_aload hx hb dX11_areTwins_53 (lv_at hl 1 rfl) ?_
        refine lv_aload_n hx hb dX11_areTwins_55 rfl (lv_at hl 3 rfl) ?_
        refine hw_get hx hb fg_26_10 hK v6 rfl dX11_areTwins_56 ?_
        refine lv_iload_n hx hb dX11_areTwins_59 rfl (lv_at hl 5 rfl) ?_
        refine hw_cR (va_runV (As := [.int p2]) (rest := [.ref b25, .ref h0, .int x35]) ⟨hx, hb, hml, hown, hts⟩ (k_X9_bentOf l D G (r1 2) p2 _ (hw_RX_2 R7)) (cwV 1 hts gX11_areTwins_X9_bentOf rfl rfl rfl (by decide +kernel) ⟨Nat.le_of_ble_eq_true rfl, Nat.le_of_ble_eq_true rfl⟩) (hw_pV (hw_rc (q := (RX9, TX9, 7)) hK v32 rfl) hH hK hST hS (by decide) (fun _ h => Or.inl h) trivial) rfl rfl hl.1 rfl (lv_room (Nat.le_of_ble_eq_true rfl)) dX11_areTwins_60 ⟨Nat.le_of_ble_eq_true rfl, Nat.le_of_ble_eq_true rfl⟩) (fun v hp => ?_)
        obtain ⟨x39, rfl⟩ := hp
        refine hw_cR (va_runV (As := [.ref b25, .int x39]) (rest := [.int x35]) ⟨hx, hb, hml, hown, hts⟩ (k_X11_locksFor l D G h0 b25 x39 _ G0 k26) (cwV 2 hts gX11_areTwins_X11_locksFor rfl rfl rfl (by decide +kernel) ⟨Nat.le_of_ble_eq_true rfl, Nat.le_of_ble_eq_true rfl⟩) (hw_pV (hw_rc (q := (RX11, TX11, 14)) hK v6 rfl) hH hK hST hS (by decide) (fun _ h => Or.inl h) trivial) rfl rfl hl.1 rfl (lv_room (Nat.le_of_ble_eq_true rfl)) dX11_areTwins_63 ⟨Nat.le_of_ble_eq_true rfl, Nat.le_of_ble_eq_true rfl⟩) (fun v hp => ?_)
        obtain ⟨x40, rfl⟩ := hp
        refine lv_icmp_ne (tgt := 73) hx hb dX11_areTwins_66 (by decide) (fun c41 => ?_) (fun c41 => ?_)
        · have b42 : x35.toInt ≠ x40.toInt := hw_ine c41
          refine lv_iconst (v := 0) hx hb dX11_areTwins_73 (by decide) ?_
          exact hw_iretR (v := 0) hx hb hr hlocks hQ rfl (Or.inr (rfl)) dX11_areTwins_74
        · have b43 : x35.toInt = x40.toInt := hw_ieq c41
          refine lv_iconst (v := 1) hx hb dX11_areTwins_69 (by decide) ?_
          refine lv_goto (tgt := 74) hx hb dX11_areTwins_70 (by decide) ?_
          exact hw_iretR (v := 1) hx hb hr hlocks hQ rfl (Or.inl rfl) dX11_areTwins_74

set_option maxHeartbeats 4000000 in
set_option maxRecDepth 100000 in
theorem k_X11_isCutAsSeen (l : Launch) (D : hw_D) (G : Nat → Nat) (h0 : Nat) (p1 : Int32) (sz : Nat) (rx : Nat → Nat) (pn_x pc_x ks_x sc_x : Int32) (G0 : G h0 = 1) (Rx : hw_RX G rx) (gsc_x : 0 ≤ sc_x.toInt ∧ sc_x.toInt ≤ 6) : Met l yX11_isCutAsSeen wsX11_isCutAsSeen ({ frames := 3, cells := 0, slots := 0, locals := 62 } : Room) (hw_PC D G [.ref h0, .int p1] sz (fun H => va_at D.1 vwCl (h0, .inr (10, hw_LX rx pn_x pc_x ks_x sc_x)) H)) (hw_QR (fun v => (v = .int 1) ∨ (v = .int 0 ∧ 0 < sc_x.toInt))) 0 0 (fun _ => False) := by
  refine hw_met (cc := cX11_isCutAsSeen) (maxL := 4) (ret := (some .boolean)) (plainFor_of_name (by decide)) rfl (Nat.le_of_ble_eq_true rfl) ?_
  intro p e s m args below meth c QQ ls hsz hx hb hml hr hts hown hlocks hnm hH hK hST hF hQ hl
  subst hsz
  have hS : va_S (hw_AW G [] s.heap.size) s.heap s.heap [] := va_S.rf
  have vx := hF
  have hl : lv_has ls 4 [(0, .ref h0), (1, .int p1)] := hl
  have u_10 : ∀ w ∈ u_ws RX11 TX11 14, w.before args s = true := fun w hw => hts w ((by decide +kernel : ∀ w ∈ u_ws RX11 TX11 14, w ∈ wsX11_isCutAsSeen) w hw)
  have fg_88_10 : hw_FG s args m 88 10 11 := ⟨RX11, "WardWalkers", RX11, TX11, 14, u_10, hown, rfl, by decide, (hts (.fieldLink RX11 88 "WardWalkers" "seenCount" "I") (by decide +kernel)), (fun _ h9 => h9)⟩
  have fg_10_10 : hw_FG s args m 10 10 0 := ⟨RX11, "WardWalkers", RX11, TX11, 14, u_10, hown, rfl, by decide, (hts (.fieldLink RX11 10 "WardWalkers" "country" "LWardWalkers$Country;") (by decide +kernel)), (fun _ h9 => h9)⟩
  have fg_41_10 : hw_FG s args m 41 10 9 := ⟨RX11, "WardWalkers", RX11, TX11, 14, u_10, hown, rfl, by decide, (hts (.fieldLink RX11 41 "WardWalkers" "seenLocks" "[I") (by decide +kernel)), (fun _ h9 => h9)⟩
  have fg_45_10 : hw_FG s args m 45 10 10 := ⟨RX11, "WardWalkers", RX11, TX11, 14, u_10, hown, rfl, by decide, (hts (.fieldLink RX11 45 "WardWalkers" "seenWent" "[I") (by decide +kernel)), (fun _ h9 => h9)⟩
  refine lv_iconst (v := 0) hx hb dX11_isCutAsSeen_0 (by decide) ?_
  refine lv_istore_n (lv' := [(2, .int 0), (0, .ref h0), (1, .int p1)]) hx hb dX11_isCutAsSeen_1 rfl hl (by decide) rfl (fun ls hl => ?_)
  have L2 : ∀ (n3 : Nat) (y2_1 : Int32) (hm : (6 - y2_1.toInt).toNat < n3) (g2 : 0 ≤ y2_1.toInt ∧ y2_1.toInt ≤ 6) (ls : Array Slot) (hl : lv_has ls 4 [(2, .int y2_1), (0, .ref h0), (1, .int p1)]), W p l e ({ frames := 3, cells := 0, slots := 0, locals := 62 } : Room) s m args below meth c s.heap [] 0 0 QQ (F0 m 2 ls []) := by
    intro n3
    induction n3 with
    | zero => intro y2_1 hm; exact absurd hm (Nat.not_lt_zero _)
    | succ n3 ih2 =>
      intro y2_1 hm g2 ls hl
      refine lv_iload_n hx hb dX11_isCutAsSeen_2 rfl (lv_at hl 0 rfl) ?_
      refine lv_aload_n hx hb dX11_isCutAsSeen_3 rfl (lv_at hl 1 rfl) ?_
      refine hw_get hx hb fg_88_10 hK vx rfl dX11_isCutAsSeen_4 ?_
      refine lv_icmp_ge (tgt := 65) hx hb dX11_isCutAsSeen_7 (by decide) (fun c4 => ?_) (fun c4 => ?_)
      · have b5 : sc_x.toInt ≤ y2_1.toInt := hw_ile c4
        refine lv_iconst (v := 1) hx hb dX11_isCutAsSeen_65 (by decide) ?_
        exact hw_iretR (v := 1) hx hb hr hlocks hQ rfl (Or.inl rfl) dX11_isCutAsSeen_66
      · have b6 : y2_1.toInt < sc_x.toInt := hw_inle c4
        refine lv_iload_n hx hb dX11_isCutAsSeen_10 rfl (lv_at hl 0 rfl) ?_
        refine lv_bipush (v := 6) hx hb dX11_isCutAsSeen_11 (by decide) ?_
        refine lv_icmp_ge (tgt := 65) hx hb dX11_isCutAsSeen_13 (by decide) (fun c7 => ?_) (fun c7 => ?_)
        · have b8 : 6 ≤ y2_1.toInt := hw_ile c7
          exfalso; omega
        · have b9 : y2_1.toInt < 6 := hw_inle c7
          refine lv_aload_n hx hb dX11_isCutAsSeen_16 rfl (lv_at hl 1 rfl) ?_
          refine hw_get hx hb fg_10_10 hK vx rfl dX11_isCutAsSeen_17 ?_
          refine lv_aload_n hx hb dX11_isCutAsSeen_20 rfl (lv_at hl 1 rfl) ?_
          refine hw_get hx hb fg_41_10 hK vx rfl dX11_isCutAsSeen_21 ?_
          refine lv_iload_n hx hb dX11_isCutAsSeen_24 rfl (lv_at hl 0 rfl) ?_
          obtain ⟨f10, v11⟩ := hH.a30 (hw_RX_9 Rx)
          refine hw_iald hx hb hK v11 (hw_in (by omega) (by omega)) dX11_isCutAsSeen_25 ?_
          refine lv_topi (fun x13 e14 => ?_)
          obtain ⟨r15, kc_16, lc_17, wc_18, dk_19, v20, R21, g22, g23, g24⟩ := hH.oC (hw_RX_0 Rx)
          refine hw_cR (va_runV (As := [.int x13]) (rest := []) ⟨hx, hb, hml, hown, hts⟩ (k_X1_lockAt l D G (rx 0) x13 _ r15 kc_16 lc_17 wc_18 dk_19 (hw_RX_0 Rx) R21 ⟨by first | decide | omega, by first | decide | omega⟩ ⟨by first | decide | omega, by first | decide | omega⟩ ⟨by first | decide | omega, by first | decide | omega⟩) (cwV 1 hts gX11_isCutAsSeen_X1_lockAt rfl rfl rfl (by decide +kernel) ⟨Nat.le_of_ble_eq_true rfl, Nat.le_of_ble_eq_true rfl⟩) (hw_pV (hw_rc (q := (RX1, TX1, 7)) hK v20 rfl) hH hK hST hS (by decide) (fun _ h => Or.inl h) v20) rfl rfl hl.1 rfl (lv_room (Nat.le_of_ble_eq_true rfl)) dX11_isCutAsSeen_26 ⟨Nat.le_of_ble_eq_true rfl, Nat.le_of_ble_eq_true rfl⟩) (fun v hp => ?_)
          rcases hp with rfl | ⟨b25, rfl, k26, q27⟩
          · refine lv_astore_nN (lv' := [(3, .null), (2, .int y2_1), (0, .ref h0), (1, .int p1)]) hx hb dX11_isCutAsSeen_29 rfl hl (by decide) rfl (fun ls hl => ?_)
            refine lv_aload_nN hx hb dX11_isCutAsSeen_30 rfl (lv_at hl 0 rfl) ?_
            refine lv_ifnullN (tgt := 59) hx hb dX11_isCutAsSeen_31 (by decide) ?_
            obtain ⟨x28, e29⟩ : ∃ y : Int32, y = y2_1 + 1 := ⟨_, rfl⟩
            refine lv_iinc (v := x28) (lv' := [(2, .int x28), (3, .null), (0, .ref h0), (1, .int p1)]) hx hb dX11_isCutAsSeen_59 hl (k := 1) rfl (by rw [e29]; rfl) (by decide) rfl (fun ls hl => ?_)
            have t30 : x28.toInt = y2_1.toInt + 1 := by rw [e29]; exact hw_add rfl rfl (by omega) (by omega)
            refine lv_goto (tgt := 2) hx hb dX11_isCutAsSeen_62 (by decide) ?_
            exact ih2 x28 (by first | omega | omega) ⟨by first | decide | omega, by first | decide | omega⟩ _ (lv_sub hl [0, 2, 3] rfl)
          · refine lv_astore_n (lv' := [(3, .ref b25), (2, .int y2_1), (0, .ref h0), (1, .int p1)]) hx hb dX11_isCutAsSeen_29 rfl hl (by decide) rfl (fun ls hl => ?_)
            refine lv_aload_n hx hb dX11_isCutAsSeen_30 rfl (lv_at hl 0 rfl) ?_
            refine lv_ifnull hx hb dX11_isCutAsSeen_31 ?_
            refine lv_aload_n hx hb dX11_isCutAsSeen_34 rfl (lv_at hl 0 rfl) ?_
            refine lv_iload_n hx hb dX11_isCutAsSeen_35 rfl (lv_at hl 3 rfl) ?_
            obtain ⟨r31, pl_32, wa_33, py_34, va_35, v36⟩ := hH.oL k26
            refine hw_cR (va_runV (As := [.int p1]) (rest := []) ⟨hx, hb, hml, hown, hts⟩ (k_X4_letsBrass l D G b25 p1 _ k26) (cwV 1 hts gX11_isCutAsSeen_X4_letsBrass rfl rfl rfl (by decide +kernel) ⟨Nat.le_of_ble_eq_true rfl, Nat.le_of_ble_eq_true rfl⟩) (hw_pV (hw_rc (q := (RX4, TX4, 4)) hK v36 rfl) hH hK hST hS (by decide) (fun _ h => Or.inl h) trivial) rfl rfl hl.1 rfl (lv_room (Nat.le_of_ble_eq_true rfl)) dX11_isCutAsSeen_36 ⟨Nat.le_of_ble_eq_true rfl, Nat.le_of_ble_eq_true rfl⟩) (fun v hp => ?_)
            rcases hp with rfl | rfl
            · refine lv_aload_n hx hb dX11_isCutAsSeen_39 rfl (lv_at hl 2 rfl) ?_
              refine hw_get hx hb fg_45_10 hK vx rfl dX11_isCutAsSeen_40 ?_
              refine lv_iload_n hx hb dX11_isCutAsSeen_43 rfl (lv_at hl 1 rfl) ?_
              obtain ⟨f38, v39⟩ := hH.a31 (hw_RX_10 Rx)
              refine hw_iald hx hb hK v39 (hw_in (by omega) (by omega)) dX11_isCutAsSeen_44 ?_
              refine lv_topi (fun x41 e42 => ?_)
              refine lv_iconst (v := 1) hx hb dX11_isCutAsSeen_45 (by decide) ?_
              refine lv_icmp_ne (tgt := 53) hx hb dX11_isCutAsSeen_46 (by decide) (fun c43 => ?_) (fun c43 => ?_)
              · have b44 : x41.toInt ≠ 1 := hw_ine c43
                refine lv_iconst (v := 0) hx hb dX11_isCutAsSeen_53 (by decide) ?_
                refine lv_icmp_eq (tgt := 59) hx hb dX11_isCutAsSeen_54 (by decide) (fun c45 => ?_) (fun c45 => ?_)
                · exact absurd c45 (by decide)
                · refine lv_iconst (v := 0) hx hb dX11_isCutAsSeen_57 (by decide) ?_
                  exact hw_iretR (v := 0) hx hb hr hlocks hQ rfl (Or.inr (⟨rfl, (by first | rfl | trivial | assumption | omega | (intros; first | rfl | assumption | omega | (exfalso; omega)))⟩)) dX11_isCutAsSeen_58
              · have b46 : x41.toInt = 1 := hw_ieq c43
                refine lv_iconst (v := 1) hx hb dX11_isCutAsSeen_49 (by decide) ?_
                refine lv_goto (tgt := 54) hx hb dX11_isCutAsSeen_50 (by decide) ?_
                refine lv_icmp_eq (tgt := 59) hx hb dX11_isCutAsSeen_54 (by decide) (fun c47 => ?_) (fun c47 => ?_)
                · obtain ⟨x48, e49⟩ : ∃ y : Int32, y = y2_1 + 1 := ⟨_, rfl⟩
                  refine lv_iinc (v := x48) (lv' := [(2, .int x48), (3, .ref b25), (0, .ref h0), (1, .int p1)]) hx hb dX11_isCutAsSeen_59 hl (k := 1) rfl (by rw [e49]; rfl) (by decide) rfl (fun ls hl => ?_)
                  have t50 : x48.toInt = y2_1.toInt + 1 := by rw [e49]; exact hw_add rfl rfl (by omega) (by omega)
                  refine lv_goto (tgt := 2) hx hb dX11_isCutAsSeen_62 (by decide) ?_
                  exact ih2 x48 (by first | omega | omega) ⟨by first | decide | omega, by first | decide | omega⟩ _ (lv_sub hl [0, 2, 3] rfl)
                · exact absurd c47 (by decide)
            · refine lv_aload_n hx hb dX11_isCutAsSeen_39 rfl (lv_at hl 2 rfl) ?_
              refine hw_get hx hb fg_45_10 hK vx rfl dX11_isCutAsSeen_40 ?_
              refine lv_iload_n hx hb dX11_isCutAsSeen_43 rfl (lv_at hl 1 rfl) ?_
              obtain ⟨f51, v52⟩ := hH.a31 (hw_RX_10 Rx)
              refine hw_iald hx hb hK v52 (hw_in (by omega) (by omega)) dX11_isCutAsSeen_44 ?_
              refine lv_topi (fun x54 e55 => ?_)
              refine lv_iconst (v := 1) hx hb dX11_isCutAsSeen_45 (by decide) ?_
              refine lv_icmp_ne (tgt := 53) hx hb dX11_isCutAsSeen_46 (by decide) (fun c56 => ?_) (fun c56 => ?_)
              · have b57 : x54.toInt ≠ 1 := hw_ine c56
                refine lv_iconst (v := 0) hx hb dX11_isCutAsSeen_53 (by decide) ?_
                refine lv_icmp_eq (tgt := 59) hx hb dX11_isCutAsSeen_54 (by decide) (fun c58 => ?_) (fun c58 => ?_)
                · obtain ⟨x59, e60⟩ : ∃ y : Int32, y = y2_1 + 1 := ⟨_, rfl⟩
                  refine lv_iinc (v := x59) (lv' := [(2, .int x59), (3, .ref b25), (0, .ref h0), (1, .int p1)]) hx hb dX11_isCutAsSeen_59 hl (k := 1) rfl (by rw [e60]; rfl) (by decide) rfl (fun ls hl => ?_)
                  have t61 : x59.toInt = y2_1.toInt + 1 := by rw [e60]; exact hw_add rfl rfl (by omega) (by omega)
                  refine lv_goto (tgt := 2) hx hb dX11_isCutAsSeen_62 (by decide) ?_
                  exact ih2 x59 (by first | omega | omega) ⟨by first | decide | omega, by first | decide | omega⟩ _ (lv_sub hl [0, 2, 3] rfl)
                · exact absurd c58 (by decide)
              · have b62 : x54.toInt = 1 := hw_ieq c56
                refine lv_iconst (v := 1) hx hb dX11_isCutAsSeen_49 (by decide) ?_
                refine lv_goto (tgt := 54) hx hb dX11_isCutAsSeen_50 (by decide) ?_
                refine lv_icmp_eq (tgt := 59) hx hb dX11_isCutAsSeen_54 (by decide) (fun c63 => ?_) (fun c63 => ?_)
                · exact absurd c63 (by decide)
                · refine lv_iconst (v := 0) hx hb dX11_isCutAsSeen_57 (by decide) ?_
                  exact hw_iretR (v := 0) hx hb hr hlocks hQ rfl (Or.inr (⟨rfl, (by first | rfl | trivial | assumption | omega | (intros; first | rfl | assumption | omega | (exfalso; omega)))⟩)) dX11_isCutAsSeen_58
  exact L2 _ 0 (Nat.lt_succ_self _) ⟨by first | decide | omega, by first | decide | omega⟩ _ (lv_sub hl [0, 1, 2] rfl)

set_option maxHeartbeats 4000000 in
set_option maxRecDepth 100000 in
theorem k_X11_isKeyAsSeen (l : Launch) (D : hw_D) (G : Nat → Nat) (h0 : Nat) (p1 : Nat) (p2 : Int32) (sz : Nat) (G0 : G h0 = 1) (G1 : G p1 = 3) : Met l yX11_isKeyAsSeen wsX11_isKeyAsSeen ({ frames := 4, cells := 0, slots := 0, locals := 89 } : Room) (hw_PC D G [.ref h0, .ref p1, .int p2] sz (fun H => True)) (hw_QR (fun v => (v = .int 1) ∨ (v = .int 0))) 0 0 (fun _ => False) := by
  refine hw_met (cc := cX11_isKeyAsSeen) (maxL := 5) (ret := (some .boolean)) (plainFor_of_name (by decide)) rfl (Nat.le_of_ble_eq_true rfl) ?_
  intro p e s m args below meth c QQ ls hsz hx hb hml hr hts hown hlocks hnm hH hK hST hF hQ hl
  subst hsz
  have hS : va_S (hw_AW G [] s.heap.size) s.heap s.heap [] := va_S.rf
  have hl : lv_has ls 5 [(0, .ref h0), (1, .ref p1), (2, .int p2)] := hl
  have u_10 : ∀ w ∈ u_ws RX11 TX11 14, w.before args s = true := fun w hw => hts w ((by decide +kernel : ∀ w ∈ u_ws RX11 TX11 14, w ∈ wsX11_isKeyAsSeen) w hw)
  have fg_88_10 : hw_FG s args m 88 10 11 := ⟨RX11, "WardWalkers", RX11, TX11, 14, u_10, hown, rfl, by decide, (hts (.fieldLink RX11 88 "WardWalkers" "seenCount" "I") (by decide +kernel)), (fun _ h9 => h9)⟩
  have fg_10_10 : hw_FG s args m 10 10 0 := ⟨RX11, "WardWalkers", RX11, TX11, 14, u_10, hown, rfl, by decide, (hts (.fieldLink RX11 10 "WardWalkers" "country" "LWardWalkers$Country;") (by decide +kernel)), (fun _ h9 => h9)⟩
  have fg_41_10 : hw_FG s args m 41 10 9 := ⟨RX11, "WardWalkers", RX11, TX11, 14, u_10, hown, rfl, by decide, (hts (.fieldLink RX11 41 "WardWalkers" "seenLocks" "[I") (by decide +kernel)), (fun _ h9 => h9)⟩
  have fg_45_10 : hw_FG s args m 45 10 10 := ⟨RX11, "WardWalkers", RX11, TX11, 14, u_10, hown, rfl, by decide, (hts (.fieldLink RX11 45 "WardWalkers" "seenWent" "[I") (by decide +kernel)), (fun _ h9 => h9)⟩
  refine lv_iconst (v := 0) hx hb dX11_isKeyAsSeen_0 (by decide) ?_
  refine lv_istore_n (lv' := [(3, .int 0), (0, .ref h0), (1, .ref p1), (2, .int p2)]) hx hb dX11_isKeyAsSeen_1 rfl hl (by decide) rfl (fun ls hl => ?_)
  have L2 : ∀ (n3 : Nat) (y3_1 : Int32) (hm : (6 - y3_1.toInt).toNat < n3) (g2 : 0 ≤ y3_1.toInt ∧ y3_1.toInt ≤ 6) (ls : Array Slot) (hl : lv_has ls 5 [(3, .int y3_1), (0, .ref h0), (1, .ref p1), (2, .int p2)]), W p l e ({ frames := 4, cells := 0, slots := 0, locals := 89 } : Room) s m args below meth c s.heap [] 0 0 QQ (F0 m 2 ls []) := by
    intro n3
    induction n3 with
    | zero => intro y3_1 hm; exact absurd hm (Nat.not_lt_zero _)
    | succ n3 ih2 =>
      intro y3_1 hm g2 ls hl
      refine lv_iload_n hx hb dX11_isKeyAsSeen_2 rfl (lv_at hl 0 rfl) ?_
      refine lv_aload_n hx hb dX11_isKeyAsSeen_3 rfl (lv_at hl 1 rfl) ?_
      obtain ⟨r4, pn_5, pc_6, ks_7, sc_8, v9, R10, g11⟩ := hH.oX G0
      refine hw_get hx hb fg_88_10 hK v9 rfl dX11_isKeyAsSeen_4 ?_
      refine lv_icmp_ge (tgt := 69) hx hb dX11_isKeyAsSeen_7 (by decide) (fun c12 => ?_) (fun c12 => ?_)
      · have b13 : sc_8.toInt ≤ y3_1.toInt := hw_ile c12
        refine lv_iconst (v := 1) hx hb dX11_isKeyAsSeen_69 (by decide) ?_
        exact hw_iretR (v := 1) hx hb hr hlocks hQ rfl (Or.inl rfl) dX11_isKeyAsSeen_70
      · have b14 : y3_1.toInt < sc_8.toInt := hw_inle c12
        refine lv_iload_n hx hb dX11_isKeyAsSeen_10 rfl (lv_at hl 0 rfl) ?_
        refine lv_bipush (v := 6) hx hb dX11_isKeyAsSeen_11 (by decide) ?_
        refine lv_icmp_ge (tgt := 69) hx hb dX11_isKeyAsSeen_13 (by decide) (fun c15 => ?_) (fun c15 => ?_)
        · have b16 : 6 ≤ y3_1.toInt := hw_ile c15
          exfalso; omega
        · have b17 : y3_1.toInt < 6 := hw_inle c15
          refine lv_aload_n hx hb dX11_isKeyAsSeen_16 rfl (lv_at hl 1 rfl) ?_
          refine hw_get hx hb fg_10_10 hK v9 rfl dX11_isKeyAsSeen_17 ?_
          refine lv_aload_n hx hb dX11_isKeyAsSeen_20 rfl (lv_at hl 1 rfl) ?_
          refine hw_get hx hb fg_41_10 hK v9 rfl dX11_isKeyAsSeen_21 ?_
          refine lv_iload_n hx hb dX11_isKeyAsSeen_24 rfl (lv_at hl 0 rfl) ?_
          obtain ⟨f18, v19⟩ := hH.a30 (hw_RX_9 R10)
          refine hw_iald hx hb hK v19 (hw_in (by omega) (by omega)) dX11_isKeyAsSeen_25 ?_
          refine lv_topi (fun x21 e22 => ?_)
          obtain ⟨r23, kc_24, lc_25, wc_26, dk_27, v28, R29, g30, g31, g32⟩ := hH.oC (hw_RX_0 R10)
          refine hw_cR (va_runV (As := [.int x21]) (rest := []) ⟨hx, hb, hml, hown, hts⟩ (k_X1_lockAt l D G (r4 0) x21 _ r23 kc_24 lc_25 wc_26 dk_27 (hw_RX_0 R10) R29 ⟨by first | decide | omega, by first | decide | omega⟩ ⟨by first | decide | omega, by first | decide | omega⟩ ⟨by first | decide | omega, by first | decide | omega⟩) (cwV 1 hts gX11_isKeyAsSeen_X1_lockAt rfl rfl rfl (by decide +kernel) ⟨Nat.le_of_ble_eq_true rfl, Nat.le_of_ble_eq_true rfl⟩) (hw_pV (hw_rc (q := (RX1, TX1, 7)) hK v28 rfl) hH hK hST hS (by decide) (fun _ h => Or.inl h) v28) rfl rfl hl.1 rfl (lv_room (Nat.le_of_ble_eq_true rfl)) dX11_isKeyAsSeen_26 ⟨Nat.le_of_ble_eq_true rfl, Nat.le_of_ble_eq_true rfl⟩) (fun v hp => ?_)
          rcases hp with rfl | ⟨b33, rfl, k34, q35⟩
          · refine lv_astoreN (lv' := [(4, .null), (3, .int y3_1), (0, .ref h0), (1, .ref p1), (2, .int p2)]) hx hb dX11_isKeyAsSeen_29 hl (by decide) rfl (fun ls hl => ?_)
            refine lv_aloadN hx hb dX11_isKeyAsSeen_31 (lv_at hl 0 rfl) ?_
            refine lv_ifnullN (tgt := 63) hx hb dX11_isKeyAsSeen_33 (by decide) ?_
            obtain ⟨x36, e37⟩ : ∃ y : Int32, y = y3_1 + 1 := ⟨_, rfl⟩
            refine lv_iinc (v := x36) (lv' := [(3, .int x36), (4, .null), (0, .ref h0), (1, .ref p1), (2, .int p2)]) hx hb dX11_isKeyAsSeen_63 hl (k := 1) rfl (by rw [e37]; rfl) (by decide) rfl (fun ls hl => ?_)
            have t38 : x36.toInt = y3_1.toInt + 1 := by rw [e37]; exact hw_add rfl rfl (by omega) (by omega)
            refine lv_goto (tgt := 2) hx hb dX11_isKeyAsSeen_66 (by decide) ?_
            exact ih2 x36 (by first | omega | omega) ⟨by first | decide | omega, by first | decide | omega⟩ _ (lv_sub hl [0, 2, 3, 4] rfl)
          · refine lv_astore (lv' := [(4, .ref b33), (3, .int y3_1), (0, .ref h0), (1, .ref p1), (2, .int p2)]) hx hb dX11_isKeyAsSeen_29 hl (by decide) rfl (fun ls hl => ?_)
            refine lv_aload hx hb dX11_isKeyAsSeen_31 (lv_at hl 0 rfl) ?_
            refine lv_ifnull hx hb dX11_isKeyAsSeen_33 ?_
            refine lv_aload hx hb dX11_isKeyAsSeen_36 (lv_at hl 0 rfl) ?_
            refine lv_aload_n hx hb dX11_isKeyAsSeen_38 rfl (lv_at hl 3 rfl) ?_
            refine lv_iload_n hx hb dX11_isKeyAsSeen_39 rfl (lv_at hl 4 rfl) ?_
            obtain ⟨r39, pl_40, wa_41, py_42, va_43, v44⟩ := hH.oL k34
            refine hw_cR (va_runV (As := [.ref p1, .int p2]) (rest := []) ⟨hx, hb, hml, hown, hts⟩ (k_X4_letsIn l D G b33 p1 p2 _ k34 G1) (cwV 2 hts gX11_isKeyAsSeen_X4_letsIn rfl rfl rfl (by decide +kernel) ⟨Nat.le_of_ble_eq_true rfl, Nat.le_of_ble_eq_true rfl⟩) (hw_pV (hw_rc (q := (RX4, TX4, 4)) hK v44 rfl) hH hK hST hS (by decide) (fun _ h => Or.inl h) trivial) rfl rfl hl.1 rfl (lv_room (Nat.le_of_ble_eq_true rfl)) dX11_isKeyAsSeen_40 ⟨Nat.le_of_ble_eq_true rfl, Nat.le_of_ble_eq_true rfl⟩) (fun v hp => ?_)
            rcases hp with rfl | rfl
            · refine lv_aload_n hx hb dX11_isKeyAsSeen_43 rfl (lv_at hl 2 rfl) ?_
              refine hw_get hx hb fg_45_10 hK v9 rfl dX11_isKeyAsSeen_44 ?_
              refine lv_iload_n hx hb dX11_isKeyAsSeen_47 rfl (lv_at hl 1 rfl) ?_
              obtain ⟨f46, v47⟩ := hH.a31 (hw_RX_10 R10)
              refine hw_iald hx hb hK v47 (hw_in (by omega) (by omega)) dX11_isKeyAsSeen_48 ?_
              refine lv_topi (fun x49 e50 => ?_)
              refine lv_iconst (v := 1) hx hb dX11_isKeyAsSeen_49 (by decide) ?_
              refine lv_icmp_ne (tgt := 57) hx hb dX11_isKeyAsSeen_50 (by decide) (fun c51 => ?_) (fun c51 => ?_)
              · have b52 : x49.toInt ≠ 1 := hw_ine c51
                refine lv_iconst (v := 0) hx hb dX11_isKeyAsSeen_57 (by decide) ?_
                refine lv_icmp_eq (tgt := 63) hx hb dX11_isKeyAsSeen_58 (by decide) (fun c53 => ?_) (fun c53 => ?_)
                · exact absurd c53 (by decide)
                · refine lv_iconst (v := 0) hx hb dX11_isKeyAsSeen_61 (by decide) ?_
                  exact hw_iretR (v := 0) hx hb hr hlocks hQ rfl (Or.inr (rfl)) dX11_isKeyAsSeen_62
              · have b54 : x49.toInt = 1 := hw_ieq c51
                refine lv_iconst (v := 1) hx hb dX11_isKeyAsSeen_53 (by decide) ?_
                refine lv_goto (tgt := 58) hx hb dX11_isKeyAsSeen_54 (by decide) ?_
                refine lv_icmp_eq (tgt := 63) hx hb dX11_isKeyAsSeen_58 (by decide) (fun c55 => ?_) (fun c55 => ?_)
                · obtain ⟨x56, e57⟩ : ∃ y : Int32, y = y3_1 + 1 := ⟨_, rfl⟩
                  refine lv_iinc (v := x56) (lv' := [(3, .int x56), (4, .ref b33), (0, .ref h0), (1, .ref p1), (2, .int p2)]) hx hb dX11_isKeyAsSeen_63 hl (k := 1) rfl (by rw [e57]; rfl) (by decide) rfl (fun ls hl => ?_)
                  have t58 : x56.toInt = y3_1.toInt + 1 := by rw [e57]; exact hw_add rfl rfl (by omega) (by omega)
                  refine lv_goto (tgt := 2) hx hb dX11_isKeyAsSeen_66 (by decide) ?_
                  exact ih2 x56 (by first | omega | omega) ⟨by first | decide | omega, by first | decide | omega⟩ _ (lv_sub hl [0, 2, 3, 4] rfl)
                · exact absurd c55 (by decide)
            · refine lv_aload_n hx hb dX11_isKeyAsSeen_43 rfl (lv_at hl 2 rfl) ?_
              refine hw_get hx hb fg_45_10 hK v9 rfl dX11_isKeyAsSeen_44 ?_
              refine lv_iload_n hx hb dX11_isKeyAsSeen_47 rfl (lv_at hl 1 rfl) ?_
              obtain ⟨f59, v60⟩ := hH.a31 (hw_RX_10 R10)
              refine hw_iald hx hb hK v60 (hw_in (by omega) (by omega)) dX11_isKeyAsSeen_48 ?_
              refine lv_topi (fun x62 e63 => ?_)
              refine lv_iconst (v := 1) hx hb dX11_isKeyAsSeen_49 (by decide) ?_
              refine lv_icmp_ne (tgt := 57) hx hb dX11_isKeyAsSeen_50 (by decide) (fun c64 => ?_) (fun c64 => ?_)
              · have b65 : x62.toInt ≠ 1 := hw_ine c64
                refine lv_iconst (v := 0) hx hb dX11_isKeyAsSeen_57 (by decide) ?_
                refine lv_icmp_eq (tgt := 63) hx hb dX11_isKeyAsSeen_58 (by decide) (fun c66 => ?_) (fun c66 => ?_)
                · obtain ⟨x67, e68⟩ : ∃ y : Int32, y = y3_1 + 1 := ⟨_, rfl⟩
                  refine lv_iinc (v := x67) (lv' := [(3, .int x67), (4, .ref b33), (0, .ref h0), (1, .ref p1), (2, .int p2)]) hx hb dX11_isKeyAsSeen_63 hl (k := 1) rfl (by rw [e68]; rfl) (by decide) rfl (fun ls hl => ?_)
                  have t69 : x67.toInt = y3_1.toInt + 1 := by rw [e68]; exact hw_add rfl rfl (by omega) (by omega)
                  refine lv_goto (tgt := 2) hx hb dX11_isKeyAsSeen_66 (by decide) ?_
                  exact ih2 x67 (by first | omega | omega) ⟨by first | decide | omega, by first | decide | omega⟩ _ (lv_sub hl [0, 2, 3, 4] rfl)
                · exact absurd c66 (by decide)
              · have b70 : x62.toInt = 1 := hw_ieq c64
                refine lv_iconst (v := 1) hx hb dX11_isKeyAsSeen_53 (by decide) ?_
                refine lv_goto (tgt := 58) hx hb dX11_isKeyAsSeen_54 (by decide) ?_
                refine lv_icmp_eq (tgt := 63) hx hb dX11_isKeyAsSeen_58 (by decide) (fun c71 => ?_) (fun c71 => ?_)
                · exact absurd c71 (by decide)
                · refine lv_iconst (v := 0) hx hb dX11_isKeyAsSeen_61 (by decide) ?_
                  exact hw_iretR (v := 0) hx hb hr hlocks hQ rfl (Or.inr (rfl)) dX11_isKeyAsSeen_62
  exact L2 _ 0 (Nat.lt_succ_self _) ⟨by first | decide | omega, by first | decide | omega⟩ _ (lv_sub hl [0, 1, 2, 3] rfl)

set_option maxHeartbeats 4000000 in
set_option maxRecDepth 100000 in
theorem k_X11_isOfKind (l : Launch) (D : hw_D) (G : Nat → Nat) (p1 : Nat) (p2 : Int32) (sz : Nat) (G1 : G p1 = 3) : Met l yX11_isOfKind wsX11_isOfKind ({ frames := 0, cells := 0, slots := 0, locals := 0 } : Room) (hw_PC D G [.ref p1, .int p2] sz (fun H => True)) (hw_QR (fun v => (v = .int 1) ∨ (v = .int 0))) 0 0 (fun _ => False) := by
  refine hw_met (cc := cX11_isOfKind) (maxL := 2) (ret := (some .boolean)) (plainFor_of_name (by decide)) rfl (Nat.le_of_ble_eq_true rfl) ?_
  intro p e s m args below meth c QQ ls hsz hx hb hml hr hts hown hlocks hnm hH hK hST hF hQ hl
  subst hsz
  have hS : va_S (hw_AW G [] s.heap.size) s.heap s.heap [] := va_S.rf
  have hl : lv_has ls 2 [(0, .ref p1), (1, .int p2)] := hl
  refine lv_iload_n hx hb dX11_isOfKind_0 rfl (lv_at hl 1 rfl) ?_
  by_cases w1 : p2.toInt < 0 ∨ 4 < p2.toInt
  · refine lv_tableOut (tgt := 58) hx hb dX11_isOfKind_1 w1 (by decide) ?_
    refine lv_iconst (v := 0) hx hb dX11_isOfKind_58 (by decide) ?_
    exact hw_iretR (v := 0) hx hb hr hlocks hQ rfl (Or.inr (rfl)) dX11_isOfKind_59
  · rcases (show p2.toInt = 0 ∨ p2.toInt = 1 ∨ p2.toInt = 2 ∨ p2.toInt = 3 ∨ p2.toInt = 4 by omega) with w1 | w1 | w1 | w1 | w1
    · refine lv_tableIn (tgt := 36) (off := 35) hx hb dX11_isOfKind_1 (by omega) (by omega) (by rw [w1]; rfl) (by decide) ?_
      refine lv_iconst (v := 1) hx hb dX11_isOfKind_36 (by decide) ?_
      exact hw_iretR (v := 1) hx hb hr hlocks hQ rfl (Or.inl rfl) dX11_isOfKind_37
    · refine lv_tableIn (tgt := 38) (off := 37) hx hb dX11_isOfKind_1 (by omega) (by omega) (by rw [w1]; rfl) (by decide) ?_
      refine lv_aload_n hx hb dX11_isOfKind_38 rfl (lv_at hl 0 rfl) ?_
      obtain ⟨ci2, cu3, mk4, c6, v5⟩ := hH.oKey G1
      rcases c6 with rfl | rfl | rfl | rfl
      · refine va_instE hx hb hown (hts (.classLink RX11 382 "WardWalkers$Brass") (by decide +kernel)) (hw_rc (q := (RX0, TX0, 2)) hK v5 rfl) dX11_isOfKind_39 ?_
        exact hw_iretR (v := 1) hx hb hr hlocks hQ rfl (Or.inl rfl) dX11_isOfKind_42
      · refine va_instNo hx hb hown (hts (.classLink RX11 382 "WardWalkers$Brass") (by decide +kernel)) (hw_ex_X2_X0 hST.ex) (hw_rc (q := (RX2, TX2, 2)) hK v5 rfl) dX11_isOfKind_39 ?_
        exact hw_iretR (v := 0) hx hb hr hlocks hQ rfl (Or.inr (rfl)) dX11_isOfKind_42
      · refine va_instY hx hb hown (hts (.classLink RX11 382 "WardWalkers$Brass") (by decide +kernel)) (hw_ec_X5_X0 hST.ex) (hw_rc (q := (RX5, TX5, 2)) hK v5 rfl) dX11_isOfKind_39 ?_
        exact hw_iretR (v := 1) hx hb hr hlocks hQ rfl (Or.inl rfl) dX11_isOfKind_42
      · refine va_instY hx hb hown (hts (.classLink RX11 382 "WardWalkers$Brass") (by decide +kernel)) (hw_ec_X8_X0 hST.ex) (hw_rc (q := (RX8, TX8, 2)) hK v5 rfl) dX11_isOfKind_39 ?_
        exact hw_iretR (v := 1) hx hb hr hlocks hQ rfl (Or.inl rfl) dX11_isOfKind_42
    · refine lv_tableIn (tgt := 43) (off := 42) hx hb dX11_isOfKind_1 (by omega) (by omega) (by rw [w1]; rfl) (by decide) ?_
      refine lv_aload_n hx hb dX11_isOfKind_43 rfl (lv_at hl 0 rfl) ?_
      obtain ⟨ci7, cu8, mk9, c11, v10⟩ := hH.oKey G1
      rcases c11 with rfl | rfl | rfl | rfl
      · refine va_instNo hx hb hown (hts (.classLink RX11 390 "WardWalkers$Rusty") (by decide +kernel)) (hw_ex_X0_X8 hST.ex) (hw_rc (q := (RX0, TX0, 2)) hK v10 rfl) dX11_isOfKind_44 ?_
        exact hw_iretR (v := 0) hx hb hr hlocks hQ rfl (Or.inr (rfl)) dX11_isOfKind_47
      · refine va_instNo hx hb hown (hts (.classLink RX11 390 "WardWalkers$Rusty") (by decide +kernel)) (hw_ex_X2_X8 hST.ex) (hw_rc (q := (RX2, TX2, 2)) hK v10 rfl) dX11_isOfKind_44 ?_
        exact hw_iretR (v := 0) hx hb hr hlocks hQ rfl (Or.inr (rfl)) dX11_isOfKind_47
      · refine va_instNo hx hb hown (hts (.classLink RX11 390 "WardWalkers$Rusty") (by decide +kernel)) (hw_ex_X5_X8 hST.ex) (hw_rc (q := (RX5, TX5, 2)) hK v10 rfl) dX11_isOfKind_44 ?_
        exact hw_iretR (v := 0) hx hb hr hlocks hQ rfl (Or.inr (rfl)) dX11_isOfKind_47
      · refine va_instE hx hb hown (hts (.classLink RX11 390 "WardWalkers$Rusty") (by decide +kernel)) (hw_rc (q := (RX8, TX8, 2)) hK v10 rfl) dX11_isOfKind_44 ?_
        exact hw_iretR (v := 1) hx hb hr hlocks hQ rfl (Or.inl rfl) dX11_isOfKind_47
    · refine lv_tableIn (tgt := 48) (off := 47) hx hb dX11_isOfKind_1 (by omega) (by omega) (by rw [w1]; rfl) (by decide) ?_
      refine lv_aload_n hx hb dX11_isOfKind_48 rfl (lv_at hl 0 rfl) ?_
      obtain ⟨ci12, cu13, mk14, c16, v15⟩ := hH.oKey G1
      rcases c16 with rfl | rfl | rfl | rfl
      · refine va_instNo hx hb hown (hts (.classLink RX11 194 "WardWalkers$Master") (by decide +kernel)) (hw_ex_X0_X5 hST.ex) (hw_rc (q := (RX0, TX0, 2)) hK v15 rfl) dX11_isOfKind_49 ?_
        exact hw_iretR (v := 0) hx hb hr hlocks hQ rfl (Or.inr (rfl)) dX11_isOfKind_52
      · refine va_instNo hx hb hown (hts (.classLink RX11 194 "WardWalkers$Master") (by decide +kernel)) (hw_ex_X2_X5 hST.ex) (hw_rc (q := (RX2, TX2, 2)) hK v15 rfl) dX11_isOfKind_49 ?_
        exact hw_iretR (v := 0) hx hb hr hlocks hQ rfl (Or.inr (rfl)) dX11_isOfKind_52
      · refine va_instE hx hb hown (hts (.classLink RX11 194 "WardWalkers$Master") (by decide +kernel)) (hw_rc (q := (RX5, TX5, 2)) hK v15 rfl) dX11_isOfKind_49 ?_
        exact hw_iretR (v := 1) hx hb hr hlocks hQ rfl (Or.inl rfl) dX11_isOfKind_52
      · refine va_instNo hx hb hown (hts (.classLink RX11 194 "WardWalkers$Master") (by decide +kernel)) (hw_ex_X8_X5 hST.ex) (hw_rc (q := (RX8, TX8, 2)) hK v15 rfl) dX11_isOfKind_49 ?_
        exact hw_iretR (v := 0) hx hb hr hlocks hQ rfl (Or.inr (rfl)) dX11_isOfKind_52
    · refine lv_tableIn (tgt := 53) (off := 52) hx hb dX11_isOfKind_1 (by omega) (by omega) (by rw [w1]; rfl) (by decide) ?_
      refine lv_aload_n hx hb dX11_isOfKind_53 rfl (lv_at hl 0 rfl) ?_
      obtain ⟨ci17, cu18, mk19, c21, v20⟩ := hH.oKey G1
      rcases c21 with rfl | rfl | rfl | rfl
      · refine va_instNo hx hb hown (hts (.classLink RX11 395 "WardWalkers$Filed") (by decide +kernel)) (hw_ex_X0_X2 hST.ex) (hw_rc (q := (RX0, TX0, 2)) hK v20 rfl) dX11_isOfKind_54 ?_
        exact hw_iretR (v := 0) hx hb hr hlocks hQ rfl (Or.inr (rfl)) dX11_isOfKind_57
      · refine va_instE hx hb hown (hts (.classLink RX11 395 "WardWalkers$Filed") (by decide +kernel)) (hw_rc (q := (RX2, TX2, 2)) hK v20 rfl) dX11_isOfKind_54 ?_
        exact hw_iretR (v := 1) hx hb hr hlocks hQ rfl (Or.inl rfl) dX11_isOfKind_57
      · refine va_instNo hx hb hown (hts (.classLink RX11 395 "WardWalkers$Filed") (by decide +kernel)) (hw_ex_X5_X2 hST.ex) (hw_rc (q := (RX5, TX5, 2)) hK v20 rfl) dX11_isOfKind_54 ?_
        exact hw_iretR (v := 0) hx hb hr hlocks hQ rfl (Or.inr (rfl)) dX11_isOfKind_57
      · refine va_instNo hx hb hown (hts (.classLink RX11 395 "WardWalkers$Filed") (by decide +kernel)) (hw_ex_X8_X2 hST.ex) (hw_rc (q := (RX8, TX8, 2)) hK v20 rfl) dX11_isOfKind_54 ?_
        exact hw_iretR (v := 0) hx hb hr hlocks hQ rfl (Or.inr (rfl)) dX11_isOfKind_57

set_option maxHeartbeats 4000000 in
set_option maxRecDepth 100000 in
theorem k_X11_choose (l : Launch) (D : hw_D) (G : Nat → Nat) (p1 : Int32) (p2 : Int32) (sz : Nat) : Met l yX11_choose wsX11_choose ({ frames := 0, cells := 0, slots := 0, locals := 0 } : Room) (hw_PC D G [.int p1, .int p2] sz (fun H => True)) (hw_QR (fun v => ∃ (r : Int32), v = .int r)) 0 0 (fun _ => False) := by
  refine hw_met (cc := cX11_choose) (maxL := 2) (ret := (some .int)) (plainFor_of_name (by decide)) rfl (Nat.le_of_ble_eq_true rfl) ?_
  intro p e s m args below meth c QQ ls hsz hx hb hml hr hts hown hlocks hnm hH hK hST hF hQ hl
  subst hsz
  have hS : va_S (hw_AW G [] s.heap.size) s.heap s.heap [] := va_S.rf
  have hl : lv_has ls 2 [(0, .int p1), (1, .int p2)] := hl
  refine lv_iload_n hx hb dX11_choose_0 rfl (lv_at hl 0 rfl) ?_
  refine lv_if_lt (tgt := 33) hx hb dX11_choose_1 (by decide) (fun c1 => ?_) (fun c1 => ?_)
  · have b2 : p1.toInt < 0 := hw_ilt c1
    refine lv_iconst (v := 0) hx hb dX11_choose_33 (by decide) ?_
    exact hw_iretR (v := 0) hx hb hr hlocks hQ rfl (⟨0, rfl⟩) dX11_choose_34
  · have b3 : 0 ≤ p1.toInt := hw_inlt c1
    refine lv_iload_n hx hb dX11_choose_4 rfl (lv_at hl 0 rfl) ?_
    refine lv_bipush (v := 7) hx hb dX11_choose_5 (by decide) ?_
    refine lv_icmp_gt (tgt := 33) hx hb dX11_choose_7 (by decide) (fun c4 => ?_) (fun c4 => ?_)
    · have b5 : 7 < p1.toInt := hw_ilt c4
      refine lv_iconst (v := 0) hx hb dX11_choose_33 (by decide) ?_
      exact hw_iretR (v := 0) hx hb hr hlocks hQ rfl (⟨0, rfl⟩) dX11_choose_34
    · have b6 : p1.toInt ≤ 7 := hw_inlt c4
      refine lv_iload_n hx hb dX11_choose_10 rfl (lv_at hl 1 rfl) ?_
      refine lv_if_lt (tgt := 33) hx hb dX11_choose_11 (by decide) (fun c7 => ?_) (fun c7 => ?_)
      · have b8 : p2.toInt < 0 := hw_ilt c7
        refine lv_iconst (v := 0) hx hb dX11_choose_33 (by decide) ?_
        exact hw_iretR (v := 0) hx hb hr hlocks hQ rfl (⟨0, rfl⟩) dX11_choose_34
      · have b9 : 0 ≤ p2.toInt := hw_inlt c7
        refine lv_iload_n hx hb dX11_choose_14 rfl (lv_at hl 1 rfl) ?_
        refine lv_bipush (v := 7) hx hb dX11_choose_15 (by decide) ?_
        refine lv_icmp_gt (tgt := 33) hx hb dX11_choose_17 (by decide) (fun c10 => ?_) (fun c10 => ?_)
        · have b11 : 7 < p2.toInt := hw_ilt c10
          refine lv_iconst (v := 0) hx hb dX11_choose_33 (by decide) ?_
          exact hw_iretR (v := 0) hx hb hr hlocks hQ rfl (⟨0, rfl⟩) dX11_choose_34
        · have b12 : p2.toInt ≤ 7 := hw_inlt c10
          refine va_gets (A := (hw_AW G [] s.heap.size)) hx hb (hST.2.2.1.narrow (fun q h9 => hw_NGsub (by decide) q h9)) hS hown (hts (.fieldLink RX11 420 "WardWalkers" "WAYS" "[I") (by decide +kernel)) (fun _ h9 => h9) dX11_choose_20 ?_
          refine lv_iload_n hx hb dX11_choose_23 rfl (lv_at hl 0 rfl) ?_
          refine lv_bipush (v := 8) hx hb dX11_choose_24 (by decide) ?_
          refine lv_imul hx hb dX11_choose_26 ?_
          refine lv_topi (fun x13 e14 => ?_)
          have t15 : x13.toInt = p1.toInt * 8 := by rw [e14]; exact hw_mul rfl rfl (by omega) (by omega)
          refine lv_iload_n hx hb dX11_choose_27 rfl (lv_at hl 1 rfl) ?_
          refine lv_iadd hx hb dX11_choose_28 ?_
          refine lv_topi (fun x16 e17 => ?_)
          have t18 : x16.toInt = x13.toInt + p2.toInt := by rw [e17]; exact hw_add rfl rfl (by omega) (by omega)
          refine va_ti (A := (hw_AW G [] s.heap.size)) hx hb (hST.2.2.2.1.narrow (fun q h9 => hw_NGsub (by decide) q h9)) hS (hw_in (by omega) (by omega)) rfl dX11_choose_29 ?_
          refine lv_topi (fun x19 e20 => ?_)
          have t21 : 0 ≤ x19.toInt ∧ x19.toInt ≤ 35 := by rw [e20]; exact hw_tW_rng _
          refine lv_goto (tgt := 34) hx hb dX11_choose_30 (by decide) ?_
          exact hw_iretR (v := x19) hx hb hr hlocks hQ rfl (⟨x19, rfl⟩) dX11_choose_34

set_option maxHeartbeats 4000000 in
set_option maxRecDepth 100000 in
theorem k_X11_write (l : Launch) (D : hw_D) (G : Nat → Nat) (h0 : Nat) (p1 : Int32) (sz : Nat) (rx : Nat → Nat) (pn_x pc_x ks_x sc_x : Int32) (rt : Nat → Nat) (ln_t cl_t st_t en_t kf_t lf_t wf_t : Int32) (G0 : G h0 = 1) (Rx : hw_RX G rx) (gsc_x : 0 ≤ sc_x.toInt ∧ sc_x.toInt ≤ 6) (Rt : hw_RT G rt) (gln_t : 0 ≤ ln_t.toInt ∧ ln_t.toInt ≤ 200) (gcl_t : 0 ≤ cl_t.toInt ∧ cl_t.toInt ≤ 20) (gst_t : 0 ≤ st_t.toInt ∧ st_t.toInt ≤ 200) (gen_t : 0 ≤ en_t.toInt ∧ en_t.toInt ≤ 200) : Met l yX11_write wsX11_write ({ frames := 2, cells := 0, slots := 0, locals := 41 } : Room) (hw_PC D G [.ref h0, .int p1] sz (fun H => va_at D.1 vwCl (h0, .inr (10, hw_LX rx pn_x pc_x ks_x sc_x)) H ∧ va_at D.1 vwCl ((rx 1), .inr (9, hw_LT rt ln_t cl_t st_t en_t kf_t lf_t wf_t)) H)) (hw_QM (fun v H => (∃ (ln_t2 : Int32), v = some (.int (-3)) ∧ hw_HT D G H ∧ va_at D.1 vwCl (h0, .inr (10, hw_LX rx pn_x pc_x ks_x sc_x)) H ∧ va_at D.1 vwCl ((rx 1), .inr (9, hw_LT rt ln_t2 cl_t st_t en_t kf_t lf_t wf_t)) H ∧ (0 ≤ ln_t2.toInt ∧ ln_t2.toInt ≤ 200) ∧ (p1.toInt < 0 ∨ 255 < p1.toInt)) ∨ (∃ (ln_t2 : Int32), v = some (.int (-5)) ∧ hw_HT D G H ∧ va_at D.1 vwCl (h0, .inr (10, hw_LX rx pn_x pc_x ks_x sc_x)) H ∧ va_at D.1 vwCl ((rx 1), .inr (9, hw_LT rt ln_t2 cl_t st_t en_t kf_t lf_t wf_t)) H ∧ (0 ≤ ln_t2.toInt ∧ ln_t2.toInt ≤ 200) ∧ (0 ≤ p1.toInt ∧ p1.toInt ≤ 255) ∧ 200 ≤ ln_t.toInt) ∨ (∃ (r : Int32) (ln_t2 : Int32), v = some (.int r) ∧ hw_HT D G H ∧ va_at D.1 vwCl (h0, .inr (10, hw_LX rx pn_x pc_x ks_x sc_x)) H ∧ va_at D.1 vwCl ((rx 1), .inr (9, hw_LT rt ln_t2 cl_t st_t en_t kf_t lf_t wf_t)) H ∧ (0 ≤ ln_t2.toInt ∧ ln_t2.toInt ≤ 200) ∧ (0 ≤ p1.toInt ∧ p1.toInt ≤ 255) ∧ ln_t.toInt < 200 ∧ r.toInt = ln_t.toInt + 1)) (hw_AW G [8, 24] sz)) 0 0 (hw_AW G [8, 24] sz) := by
  refine hw_met (cc := cX11_write) (maxL := 2) (ret := (some .int)) (plainFor_of_name (by decide)) rfl (Nat.le_of_ble_eq_true rfl) ?_
  intro p e s m args below meth c QQ ls hsz hx hb hml hr hts hown hlocks hnm hH hK hST hF hQ hl
  subst hsz
  have hS : va_S (hw_AW G [8, 24] s.heap.size) s.heap s.heap [] := va_S.rf
  obtain ⟨vx, vt⟩ := hF
  have hl : lv_has ls 2 [(0, .ref h0), (1, .int p1)] := hl
  have u_10 : ∀ w ∈ u_ws RX11 TX11 14, w.before args s = true := fun w hw => hts w ((by decide +kernel : ∀ w ∈ u_ws RX11 TX11 14, w ∈ wsX11_write) w hw)
  have fg_19_10 : hw_FG s args m 19 10 1 := ⟨RX11, "WardWalkers", RX11, TX11, 14, u_10, hown, rfl, by decide, (hts (.fieldLink RX11 19 "WardWalkers" "text" "LWardWalkers$Text;") (by decide +kernel)), (fun _ h9 => h9)⟩
  have u_9 : ∀ w ∈ u_ws RX10 TX10 10, w.before args s = true := fun w hw => hts w ((by decide +kernel : ∀ w ∈ u_ws RX10 TX10 10, w ∈ wsX11_write) w hw)
  have fg_70_9 : hw_FG s args m 70 9 1 := ⟨RX11, "WardWalkers$Text", RX10, TX10, 10, u_9, hown, rfl, by decide, (hts (.fieldLink RX11 70 "WardWalkers$Text" "length" "I") (by decide +kernel)), (fun _ h9 => h9)⟩
  refine lv_iload_n hx hb dX11_write_0 rfl (lv_at hl 1 rfl) ?_
  refine lv_if_lt (tgt := 11) hx hb dX11_write_1 (by decide) (fun c1 => ?_) (fun c1 => ?_)
  · have b2 : p1.toInt < 0 := hw_ilt c1
    refine lv_bipush (v := (-3)) hx hb dX11_write_11 (by decide) ?_
    exact hw_iretM (v := (-3)) hx hb hr hlocks hQ hS rfl (Or.inl ⟨ln_t, rfl, hH, vx, vt, ⟨by first | decide | omega, by first | decide | omega⟩, (by first | rfl | trivial | assumption | omega | (intros; first | rfl | assumption | omega | (exfalso; omega)))⟩) dX11_write_13
  · have b3 : 0 ≤ p1.toInt := hw_inlt c1
    refine lv_iload_n hx hb dX11_write_4 rfl (lv_at hl 1 rfl) ?_
    refine lv_sipush (v := 255) hx hb dX11_write_5 (by decide) ?_
    refine lv_icmp_le (tgt := 14) hx hb dX11_write_8 (by decide) (fun c4 => ?_) (fun c4 => ?_)
    · have b5 : p1.toInt ≤ 255 := hw_ile c4
      refine lv_aload_n hx hb dX11_write_14 rfl (lv_at hl 0 rfl) ?_
      refine hw_get hx hb fg_19_10 hK vx rfl dX11_write_15 ?_
      refine hw_cR (va_runV (As := []) (rest := []) ⟨hx, hb, hml, hown, hts⟩ (k_X10_hasPlace l D G (rx 1) _ rt ln_t cl_t st_t en_t kf_t lf_t wf_t (hw_RX_1 Rx) Rt ⟨by first | decide | omega, by first | decide | omega⟩ ⟨by first | decide | omega, by first | decide | omega⟩ ⟨by first | decide | omega, by first | decide | omega⟩ ⟨by first | decide | omega, by first | decide | omega⟩) (cwV 0 hts gX11_write_X10_hasPlace rfl rfl rfl (by decide +kernel) ⟨Nat.le_of_ble_eq_true rfl, Nat.le_of_ble_eq_true rfl⟩) (hw_pV (hw_rc (q := (RX10, TX10, 10)) hK vt rfl) hH hK hST hS (by decide) (fun _ h => Or.inl h) vt) rfl rfl hl.1 rfl (lv_room (Nat.le_of_ble_eq_true rfl)) dX11_write_18 ⟨Nat.le_of_ble_eq_true rfl, Nat.le_of_ble_eq_true rfl⟩) (fun v hp => ?_)
      rcases hp with ⟨rfl, q6⟩ | ⟨rfl, q7⟩
      · refine lv_if_ne (tgt := 27) hx hb dX11_write_21 (by decide) (fun c8 => ?_) (fun c8 => ?_)
        · refine lv_aload_n hx hb dX11_write_27 rfl (lv_at hl 0 rfl) ?_
          refine hw_get hx hb fg_19_10 hK vx rfl dX11_write_28 ?_
          refine lv_iload_n hx hb dX11_write_31 rfl (lv_at hl 1 rfl) ?_
          refine hw_cM0 (va_runV (As := [.int p1]) (rest := []) ⟨hx, hb, hml, hown, hts⟩ (k_X10_add l D G (rx 1) p1 _ rt ln_t cl_t st_t en_t kf_t lf_t wf_t (hw_RX_1 Rx) Rt ⟨by first | decide | omega, by first | decide | omega⟩ ⟨by first | decide | omega, by first | decide | omega⟩ ⟨by first | decide | omega, by first | decide | omega⟩ ⟨by first | decide | omega, by first | decide | omega⟩) (cwV 1 hts gX11_write_X10_add rfl rfl rfl (by decide +kernel) ⟨Nat.le_of_ble_eq_true rfl, Nat.le_of_ble_eq_true rfl⟩) (hw_pV (hw_rc (q := (RX10, TX10, 10)) hK vt rfl) hH hK hST hS (by decide) (fun _ h => Or.inl h) vt) rfl rfl hl.1 rfl (lv_room (Nat.le_of_ble_eq_true rfl)) dX11_write_32 ⟨Nat.le_of_ble_eq_true rfl, Nat.le_of_ble_eq_true rfl⟩) hS (hw_AWsub (by decide) (fun _ _ => rfl) hS.1) (fun v H locs hp hz hk hS => ?_)
          obtain ⟨x9, rfl, hH, v10, g11, q12⟩ := hp
          have vx := va_at.kept vx (hk _ (hw_lt vx) (hw_AWn G0 (by decide) (hw_lt vx)))
          refine lv_aload_n hx hb dX11_write_35 rfl (lv_at hl 0 rfl) ?_
          refine hw_get hx hb fg_19_10 hK vx rfl dX11_write_36 ?_
          refine hw_get hx hb fg_70_9 hK v10 rfl dX11_write_39 ?_
          exact hw_iretM (v := x9) hx hb hr hlocks hQ hS rfl (Or.inr (Or.inr (⟨x9, x9, rfl, hH, vx, v10, ⟨by first | decide | omega, by first | decide | omega⟩, (by first | rfl | trivial | assumption | omega | (intros; first | rfl | assumption | omega | (exfalso; omega))), (by first | rfl | trivial | assumption | omega | (intros; first | rfl | assumption | omega | (exfalso; omega))), (by first | rfl | trivial | assumption | omega | (intros; first | rfl | assumption | omega | (exfalso; omega)))⟩))) dX11_write_42
        · exact absurd c8 (by decide)
      · refine lv_if_ne (tgt := 27) hx hb dX11_write_21 (by decide) (fun c13 => ?_) (fun c13 => ?_)
        · exact absurd c13 (by decide)
        · refine lv_bipush (v := (-5)) hx hb dX11_write_24 (by decide) ?_
          exact hw_iretM (v := (-5)) hx hb hr hlocks hQ hS rfl (Or.inr (Or.inl ⟨ln_t, rfl, hH, vx, vt, ⟨by first | decide | omega, by first | decide | omega⟩, (by first | rfl | trivial | assumption | omega | (intros; first | rfl | assumption | omega | (exfalso; omega))), (by first | rfl | trivial | assumption | omega | (intros; first | rfl | assumption | omega | (exfalso; omega)))⟩)) dX11_write_26
    · have b14 : 255 < p1.toInt := hw_inle c4
      refine lv_bipush (v := (-3)) hx hb dX11_write_11 (by decide) ?_
      exact hw_iretM (v := (-3)) hx hb hr hlocks hQ hS rfl (Or.inl ⟨ln_t, rfl, hH, vx, vt, ⟨by first | decide | omega, by first | decide | omega⟩, (by first | rfl | trivial | assumption | omega | (intros; first | rfl | assumption | omega | (exfalso; omega)))⟩) dX11_write_13

set_option maxHeartbeats 4000000 in
set_option maxRecDepth 100000 in
theorem k_X11_erase (l : Launch) (D : hw_D) (G : Nat → Nat) (h0 : Nat) (sz : Nat) (rx : Nat → Nat) (pn_x pc_x ks_x sc_x : Int32) (rt : Nat → Nat) (ln_t cl_t st_t en_t kf_t lf_t wf_t : Int32) (G0 : G h0 = 1) (Rx : hw_RX G rx) (gsc_x : 0 ≤ sc_x.toInt ∧ sc_x.toInt ≤ 6) (Rt : hw_RT G rt) (gln_t : 0 ≤ ln_t.toInt ∧ ln_t.toInt ≤ 200) (gcl_t : 0 ≤ cl_t.toInt ∧ cl_t.toInt ≤ 20) (gst_t : 0 ≤ st_t.toInt ∧ st_t.toInt ≤ 200) (gen_t : 0 ≤ en_t.toInt ∧ en_t.toInt ≤ 200) : Met l yX11_erase wsX11_erase ({ frames := 0, cells := 0, slots := 0, locals := 0 } : Room) (hw_PC D G [.ref h0] sz (fun H => va_at D.1 vwCl (h0, .inr (10, hw_LX rx pn_x pc_x ks_x sc_x)) H ∧ va_at D.1 vwCl ((rx 1), .inr (9, hw_LT rt ln_t cl_t st_t en_t kf_t lf_t wf_t)) H)) (hw_QM (fun v H => ∃ (r : Int32) (ln_t2 : Int32), v = some (.int r) ∧ hw_HT D G H ∧ va_at D.1 vwCl (h0, .inr (10, hw_LX rx pn_x pc_x ks_x sc_x)) H ∧ va_at D.1 vwCl ((rx 1), .inr (9, hw_LT rt ln_t2 cl_t st_t en_t kf_t lf_t wf_t)) H ∧ (0 ≤ ln_t2.toInt ∧ ln_t2.toInt ≤ 200) ∧ r = ln_t) (hw_AW G [8] sz)) 0 0 (hw_AW G [8] sz) := by
  refine hw_met (cc := cX11_erase) (maxL := 2) (ret := (some .int)) (plainFor_of_name (by decide)) rfl (Nat.le_of_ble_eq_true rfl) ?_
  intro p e s m args below meth c QQ ls hsz hx hb hml hr hts hown hlocks hnm hH hK hST hF hQ hl
  subst hsz
  have hS : va_S (hw_AW G [8] s.heap.size) s.heap s.heap [] := va_S.rf
  obtain ⟨vx, vt⟩ := hF
  have hl : lv_has ls 2 [(0, .ref h0)] := hl
  have u_10 : ∀ w ∈ u_ws RX11 TX11 14, w.before args s = true := fun w hw => hts w ((by decide +kernel : ∀ w ∈ u_ws RX11 TX11 14, w ∈ wsX11_erase) w hw)
  have fg_19_10 : hw_FG s args m 19 10 1 := ⟨RX11, "WardWalkers", RX11, TX11, 14, u_10, hown, rfl, by decide, (hts (.fieldLink RX11 19 "WardWalkers" "text" "LWardWalkers$Text;") (by decide +kernel)), (fun _ h9 => h9)⟩
  have u_9 : ∀ w ∈ u_ws RX10 TX10 10, w.before args s = true := fun w hw => hts w ((by decide +kernel : ∀ w ∈ u_ws RX10 TX10 10, w ∈ wsX11_erase) w hw)
  have fg_70_9 : hw_FG s args m 70 9 1 := ⟨RX11, "WardWalkers$Text", RX10, TX10, 10, u_9, hown, rfl, by decide, (hts (.fieldLink RX11 70 "WardWalkers$Text" "length" "I") (by decide +kernel)), (fun _ h9 => h9)⟩
  have fp_70_9 : hw_FP s args m 70 9 1 false .int := ⟨RX11, "WardWalkers$Text", RX10, TX10, 10, tyX10, u_9, hown, rfl, by decide, (hts (.fieldLink RX11 70 "WardWalkers$Text" "length" "I") (by decide +kernel)), (fun _ h9 => h9), tyX10_ok, nmX10, rfl, (fun h => by cases h), by decide +kernel⟩
  refine lv_aload_n hx hb dX11_erase_0 rfl (lv_at hl 0 rfl) ?_
  refine hw_get hx hb fg_19_10 hK vx rfl dX11_erase_1 ?_
  refine hw_get hx hb fg_70_9 hK vt rfl dX11_erase_4 ?_
  refine lv_istore_n (lv' := [(1, .int ln_t), (0, .ref h0)]) hx hb dX11_erase_7 rfl hl (by decide) rfl (fun ls hl => ?_)
  refine lv_aload_n hx hb dX11_erase_8 rfl (lv_at hl 1 rfl) ?_
  refine hw_get hx hb fg_19_10 hK vx rfl dX11_erase_9 ?_
  refine lv_iconst (v := 0) hx hb dX11_erase_12 (by decide) ?_
  refine hw_put (v := .int 0) (fs' := hw_LT rt 0 cl_t st_t en_t kf_t lf_t wf_t) hx hb fp_70_9 hK hH vt (Nat.le_of_ble_eq_true rfl) rfl rfl rfl (fun _ => by rw [(hw_RX_1 Rx)]; exact ⟨rt, 0, cl_t, st_t, en_t, kf_t, lf_t, wf_t, rfl, Rt, ⟨by first | decide | omega, by first | decide | omega⟩, ⟨by first | decide | omega, by first | decide | omega⟩, ⟨by first | decide | omega, by first | decide | omega⟩, ⟨by first | decide | omega, by first | decide | omega⟩⟩) hS (hw_AWi (hw_RX_1 Rx) (by decide)) dX11_erase_13 (fun H locs hH vt oq hz hS => ?_)
  have vx := va_at.kept vx (oq _ (hw_ne G0 (hw_RX_1 Rx) (by decide)))
  refine lv_iload_n hx hb dX11_erase_16 rfl (lv_at hl 0 rfl) ?_
  exact hw_iretM (v := ln_t) hx hb hr hlocks hQ hS rfl (⟨ln_t, 0, rfl, hH, vx, vt, ⟨by first | decide | omega, by first | decide | omega⟩, (by first | rfl | trivial | assumption | omega | (intros; first | rfl | assumption | omega | (exfalso; omega)))⟩) dX11_erase_17

set_option maxHeartbeats 4000000 in
set_option maxRecDepth 100000 in
theorem k_X11_fault (l : Launch) (D : hw_D) (G : Nat → Nat) (h0 : Nat) (sz : Nat) (rx : Nat → Nat) (pn_x pc_x ks_x sc_x : Int32) (rt : Nat → Nat) (ln_t cl_t st_t en_t kf_t lf_t wf_t : Int32) (G0 : G h0 = 1) (Rx : hw_RX G rx) (gsc_x : 0 ≤ sc_x.toInt ∧ sc_x.toInt ≤ 6) (Rt : hw_RT G rt) (gln_t : 0 ≤ ln_t.toInt ∧ ln_t.toInt ≤ 200) (gcl_t : 0 ≤ cl_t.toInt ∧ cl_t.toInt ≤ 20) (gst_t : 0 ≤ st_t.toInt ∧ st_t.toInt ≤ 200) (gen_t : 0 ≤ en_t.toInt ∧ en_t.toInt ≤ 200) : Met l yX11_fault wsX11_fault ({ frames := 8, cells := 0, slots := 0, locals := 174 } : Room) (hw_PC D G [.ref h0] sz (fun H => va_at D.1 vwCl (h0, .inr (10, hw_LX rx pn_x pc_x ks_x sc_x)) H ∧ va_at D.1 vwCl ((rx 1), .inr (9, hw_LT rt ln_t cl_t st_t en_t kf_t lf_t wf_t)) H)) (hw_QM (fun v H => (∃ (cl_t2 : Int32) (st_t2 : Int32) (en_t2 : Int32) (kf_t2 : Int32) (lf_t2 : Int32) (wf_t2 : Int32), v = some (.int (-1)) ∧ hw_HT D G H ∧ va_at D.1 vwCl (h0, .inr (10, hw_LX rx pn_x pc_x ks_x sc_x)) H ∧ va_at D.1 vwCl ((rx 1), .inr (9, hw_LT rt ln_t cl_t2 st_t2 en_t2 kf_t2 lf_t2 wf_t2)) H ∧ (0 ≤ cl_t2.toInt ∧ cl_t2.toInt ≤ 20) ∧ (0 ≤ st_t2.toInt ∧ st_t2.toInt ≤ 200) ∧ (0 ≤ en_t2.toInt ∧ en_t2.toInt ≤ 200) ∧ 0 < ln_t.toInt) ∨ (∃ (r : Int32) (cl_t2 : Int32) (st_t2 : Int32) (en_t2 : Int32) (kf_t2 : Int32) (lf_t2 : Int32) (wf_t2 : Int32), v = some (.int r) ∧ hw_HT D G H ∧ va_at D.1 vwCl (h0, .inr (10, hw_LX rx pn_x pc_x ks_x sc_x)) H ∧ va_at D.1 vwCl ((rx 1), .inr (9, hw_LT rt ln_t cl_t2 st_t2 en_t2 kf_t2 lf_t2 wf_t2)) H ∧ (0 ≤ cl_t2.toInt ∧ cl_t2.toInt ≤ 20) ∧ (0 ≤ st_t2.toInt ∧ st_t2.toInt ≤ 200) ∧ (0 ≤ en_t2.toInt ∧ en_t2.toInt ≤ 200) ∧ (0 ≤ r.toInt ∧ r.toInt ≤ 200) ∧ (ln_t.toInt = 0 → r.toInt = 0))) (hw_AW G [8, 25, 26] sz)) 0 0 (hw_AW G [8, 25, 26] sz) := by
  refine hw_met (cc := cX11_fault) (maxL := 1) (ret := (some .int)) (plainFor_of_name (by decide)) rfl (Nat.le_of_ble_eq_true rfl) ?_
  intro p e s m args below meth c QQ ls hsz hx hb hml hr hts hown hlocks hnm hH hK hST hF hQ hl
  subst hsz
  have hS : va_S (hw_AW G [8, 25, 26] s.heap.size) s.heap s.heap [] := va_S.rf
  obtain ⟨vx, vt⟩ := hF
  have hl : lv_has ls 1 [(0, .ref h0)] := hl
  have u_10 : ∀ w ∈ u_ws RX11 TX11 14, w.before args s = true := fun w hw => hts w ((by decide +kernel : ∀ w ∈ u_ws RX11 TX11 14, w ∈ wsX11_fault) w hw)
  have fg_19_10 : hw_FG s args m 19 10 1 := ⟨RX11, "WardWalkers", RX11, TX11, 14, u_10, hown, rfl, by decide, (hts (.fieldLink RX11 19 "WardWalkers" "text" "LWardWalkers$Text;") (by decide +kernel)), (fun _ h9 => h9)⟩
  have fg_10_10 : hw_FG s args m 10 10 0 := ⟨RX11, "WardWalkers", RX11, TX11, 14, u_10, hown, rfl, by decide, (hts (.fieldLink RX11 10 "WardWalkers" "country" "LWardWalkers$Country;") (by decide +kernel)), (fun _ h9 => h9)⟩
  refine lv_aload_n hx hb dX11_fault_0 rfl (lv_at hl 0 rfl) ?_
  refine hw_get hx hb fg_19_10 hK vx rfl dX11_fault_1 ?_
  refine lv_aload_n hx hb dX11_fault_4 rfl (lv_at hl 0 rfl) ?_
  refine hw_get hx hb fg_10_10 hK vx rfl dX11_fault_5 ?_
  refine hw_cM0 (va_runV (As := [.ref (rx 0)]) (rest := []) ⟨hx, hb, hml, hown, hts⟩ (k_X10_readFor l D G (rx 1) (rx 0) _ rt ln_t cl_t st_t en_t kf_t lf_t wf_t (hw_RX_1 Rx) (hw_RX_0 Rx) Rt ⟨by first | decide | omega, by first | decide | omega⟩ ⟨by first | decide | omega, by first | decide | omega⟩ ⟨by first | decide | omega, by first | decide | omega⟩ ⟨by first | decide | omega, by first | decide | omega⟩) (cwV 1 hts gX11_fault_X10_readFor rfl rfl rfl (by decide +kernel) ⟨Nat.le_of_ble_eq_true rfl, Nat.le_of_ble_eq_true rfl⟩) (hw_pV (hw_rc (q := (RX10, TX10, 10)) hK vt rfl) hH hK hST hS (by decide) (fun _ h => Or.inl h) vt) rfl rfl hl.1 rfl (lv_room (Nat.le_of_ble_eq_true rfl)) dX11_fault_8 ⟨Nat.le_of_ble_eq_true rfl, Nat.le_of_ble_eq_true rfl⟩) hS (hw_AWsub (by decide) (fun _ _ => rfl) hS.1) (fun v H locs hp hz hk hS => ?_)
  rcases hp with ⟨x1, x2, x3, x4, x5, x6, rfl, hH, v7, g8, g9, g10, q11⟩ | ⟨x12, x13, x14, x15, x16, x17, x18, rfl, hH, v19, g20, g21, g22, g23, q24⟩
  · have vx := va_at.kept vx (hk _ (hw_lt vx) (hw_AWn G0 (by decide) (hw_lt vx)))
    exact hw_iretM (v := (-1)) hx hb hr hlocks hQ hS rfl (Or.inl ⟨x1, x2, x3, x4, x5, x6, rfl, hH, vx, v7, ⟨by first | decide | omega, by first | decide | omega⟩, ⟨by first | decide | omega, by first | decide | omega⟩, ⟨by first | decide | omega, by first | decide | omega⟩, (by first | rfl | trivial | assumption | omega | (intros; first | rfl | assumption | omega | (exfalso; omega)))⟩) dX11_fault_11
  · have vx := va_at.kept vx (hk _ (hw_lt vx) (hw_AWn G0 (by decide) (hw_lt vx)))
    exact hw_iretM (v := x12) hx hb hr hlocks hQ hS rfl (Or.inr (⟨x12, x13, x14, x15, x16, x17, x18, rfl, hH, vx, v19, ⟨by first | decide | omega, by first | decide | omega⟩, ⟨by first | decide | omega, by first | decide | omega⟩, ⟨by first | decide | omega, by first | decide | omega⟩, ⟨by first | decide | omega, by first | decide | omega⟩, (by first | rfl | trivial | assumption | omega | (intros; first | rfl | assumption | omega | (exfalso; omega)))⟩)) dX11_fault_11

set_option maxHeartbeats 4000000 in
set_option maxRecDepth 100000 in
theorem k_X11_key (l : Launch) (D : hw_D) (G : Nat → Nat) (h0 : Nat) (p1 : Int32) (p2 : Int32) (sz : Nat) (rx : Nat → Nat) (pn_x pc_x ks_x sc_x : Int32) (rc : Nat → Nat) (kc_c lc_c wc_c dk_c : Int32) (G0 : G h0 = 1) (Rx : hw_RX G rx) (gsc_x : 0 ≤ sc_x.toInt ∧ sc_x.toInt ≤ 6) (Rc : hw_RC G rc) (gkc_c : 0 ≤ kc_c.toInt ∧ kc_c.toInt ≤ 7) (glc_c : 0 ≤ lc_c.toInt ∧ lc_c.toInt ≤ 7) (gwc_c : 0 ≤ wc_c.toInt ∧ wc_c.toInt ≤ 3) : Met l yX11_key wsX11_key ({ frames := 3, cells := 0, slots := 0, locals := 66 } : Room) (hw_PC D G [.ref h0, .int p1, .int p2] sz (fun H => va_at D.1 vwCl (h0, .inr (10, hw_LX rx pn_x pc_x ks_x sc_x)) H ∧ va_at D.1 vwCl ((rx 0), .inr (1, hw_LC rc kc_c lc_c wc_c dk_c)) H)) (hw_QR (fun v => ∃ (r : Int32), v = .int r ∧ (kc_c.toInt = 0 → r.toInt = -2))) 0 0 (fun _ => False) := by
  refine hw_met (cc := cX11_key) (maxL := 4) (ret := (some .int)) (plainFor_of_name (by decide)) rfl (Nat.le_of_ble_eq_true rfl) ?_
  intro p e s m args below meth c QQ ls hsz hx hb hml hr hts hown hlocks hnm hH hK hST hF hQ hl
  subst hsz
  have hS : va_S (hw_AW G [] s.heap.size) s.heap s.heap [] := va_S.rf
  obtain ⟨vx, vc⟩ := hF
  have hl : lv_has ls 4 [(0, .ref h0), (1, .int p1), (2, .int p2)] := hl
  have u_10 : ∀ w ∈ u_ws RX11 TX11 14, w.before args s = true := fun w hw => hts w ((by decide +kernel : ∀ w ∈ u_ws RX11 TX11 14, w ∈ wsX11_key) w hw)
  have fg_10_10 : hw_FG s args m 10 10 0 := ⟨RX11, "WardWalkers", RX11, TX11, 14, u_10, hown, rfl, by decide, (hts (.fieldLink RX11 10 "WardWalkers" "country" "LWardWalkers$Country;") (by decide +kernel)), (fun _ h9 => h9)⟩
  have u_0 : ∀ w ∈ u_ws RX0 TX0 2, w.before args s = true := fun w hw => hts w ((by decide +kernel : ∀ w ∈ u_ws RX0 TX0 2, w ∈ wsX11_key) w hw)
  have fg_107_0 : hw_FG s args m 107 0 0 := ⟨RX11, "WardWalkers$Key", RX0, TX0, 2, u_0, hown, rfl, by decide, (hts (.fieldLink RX11 107 "WardWalkers$Key" "cut" "I") (by decide +kernel)), (fun _ h9 => h9)⟩
  have u_2 : ∀ w ∈ u_ws RX2 TX2 2, w.before args s = true := fun w hw => hts w ((by decide +kernel : ∀ w ∈ u_ws RX2 TX2 2, w ∈ wsX11_key) w hw)
  have fg_107_2 : hw_FG s args m 107 2 0 := ⟨RX11, "WardWalkers$Key", RX2, TX2, 2, u_2, hown, rfl, by decide, (hts (.fieldLink RX11 107 "WardWalkers$Key" "cut" "I") (by decide +kernel)), (fun _ h9 => h9)⟩
  have u_4 : ∀ w ∈ u_ws RX5 TX5 2, w.before args s = true := fun w hw => hts w ((by decide +kernel : ∀ w ∈ u_ws RX5 TX5 2, w ∈ wsX11_key) w hw)
  have fg_107_4 : hw_FG s args m 107 4 0 := ⟨RX11, "WardWalkers$Key", RX5, TX5, 2, u_4, hown, rfl, by decide, (hts (.fieldLink RX11 107 "WardWalkers$Key" "cut" "I") (by decide +kernel)), (fun _ h9 => h9)⟩
  have u_7 : ∀ w ∈ u_ws RX8 TX8 2, w.before args s = true := fun w hw => hts w ((by decide +kernel : ∀ w ∈ u_ws RX8 TX8 2, w ∈ wsX11_key) w hw)
  have fg_107_7 : hw_FG s args m 107 7 0 := ⟨RX11, "WardWalkers$Key", RX8, TX8, 2, u_7, hown, rfl, by decide, (hts (.fieldLink RX11 107 "WardWalkers$Key" "cut" "I") (by decide +kernel)), (fun _ h9 => h9)⟩
  have fg_110_0 : hw_FG s args m 110 0 1 := ⟨RX11, "WardWalkers$Key", RX0, TX0, 2, u_0, hown, rfl, by decide, (hts (.fieldLink RX11 110 "WardWalkers$Key" "mark" "I") (by decide +kernel)), (fun _ h9 => h9)⟩
  have fg_110_2 : hw_FG s args m 110 2 1 := ⟨RX11, "WardWalkers$Key", RX2, TX2, 2, u_2, hown, rfl, by decide, (hts (.fieldLink RX11 110 "WardWalkers$Key" "mark" "I") (by decide +kernel)), (fun _ h9 => h9)⟩
  have fg_110_4 : hw_FG s args m 110 4 1 := ⟨RX11, "WardWalkers$Key", RX5, TX5, 2, u_4, hown, rfl, by decide, (hts (.fieldLink RX11 110 "WardWalkers$Key" "mark" "I") (by decide +kernel)), (fun _ h9 => h9)⟩
  have fg_110_7 : hw_FG s args m 110 7 1 := ⟨RX11, "WardWalkers$Key", RX8, TX8, 2, u_7, hown, rfl, by decide, (hts (.fieldLink RX11 110 "WardWalkers$Key" "mark" "I") (by decide +kernel)), (fun _ h9 => h9)⟩
  have fg_26_10 : hw_FG s args m 26 10 2 := ⟨RX11, "WardWalkers", RX11, TX11, 14, u_10, hown, rfl, by decide, (hts (.fieldLink RX11 26 "WardWalkers" "now" "LWardWalkers$Standing;") (by decide +kernel)), (fun _ h9 => h9)⟩
  refine lv_aload_n hx hb dX11_key_0 rfl (lv_at hl 0 rfl) ?_
  refine hw_get hx hb fg_10_10 hK vx rfl dX11_key_1 ?_
  refine lv_iload_n hx hb dX11_key_4 rfl (lv_at hl 1 rfl) ?_
  refine hw_cR (va_runV (As := [.int p1]) (rest := []) ⟨hx, hb, hml, hown, hts⟩ (k_X1_keyAt l D G (rx 0) p1 _ rc kc_c lc_c wc_c dk_c (hw_RX_0 Rx) Rc ⟨by first | decide | omega, by first | decide | omega⟩ ⟨by first | decide | omega, by first | decide | omega⟩ ⟨by first | decide | omega, by first | decide | omega⟩) (cwV 1 hts gX11_key_X1_keyAt rfl rfl rfl (by decide +kernel) ⟨Nat.le_of_ble_eq_true rfl, Nat.le_of_ble_eq_true rfl⟩) (hw_pV (hw_rc (q := (RX1, TX1, 7)) hK vc rfl) hH hK hST hS (by decide) (fun _ h => Or.inl h) vc) rfl rfl hl.1 rfl (lv_room (Nat.le_of_ble_eq_true rfl)) dX11_key_5 ⟨Nat.le_of_ble_eq_true rfl, Nat.le_of_ble_eq_true rfl⟩) (fun v hp => ?_)
  rcases hp with rfl | ⟨b1, rfl, k2, q3⟩
  · refine lv_astore_nN (lv' := [(3, .null), (0, .ref h0), (1, .int p1), (2, .int p2)]) hx hb dX11_key_8 rfl hl (by decide) rfl (fun ls hl => ?_)
    refine lv_aload_nN hx hb dX11_key_9 rfl (lv_at hl 0 rfl) ?_
    refine lv_ifnonnullN hx hb dX11_key_10 ?_
    refine lv_bipush (v := (-2)) hx hb dX11_key_13 (by decide) ?_
    exact hw_iretR (v := (-2)) hx hb hr hlocks hQ rfl (⟨(-2), rfl, (by first | rfl | trivial | assumption | omega | (intros; first | rfl | assumption | omega | (exfalso; omega)))⟩) dX11_key_15
  · refine lv_astore_n (lv' := [(3, .ref b1), (0, .ref h0), (1, .int p1), (2, .int p2)]) hx hb dX11_key_8 rfl hl (by decide) rfl (fun ls hl => ?_)
    refine lv_aload_n hx hb dX11_key_9 rfl (lv_at hl 0 rfl) ?_
    refine lv_ifnonnull (tgt := 16) hx hb dX11_key_10 (by decide) ?_
    refine lv_iload_n hx hb dX11_key_16 rfl (lv_at hl 3 rfl) ?_
    by_cases w4 : p2.toInt < 0 ∨ 6 < p2.toInt
    · refine lv_tableOut (tgt := 120) hx hb dX11_key_17 w4 (by decide) ?_
      refine lv_bipush (v := (-3)) hx hb dX11_key_120 (by decide) ?_
      exact hw_iretR (v := (-3)) hx hb hr hlocks hQ rfl (⟨(-3), rfl, (by first | rfl | trivial | assumption | omega | (intros; first | rfl | assumption | omega | (exfalso; omega)))⟩) dX11_key_122
    · rcases (show p2.toInt = 0 ∨ p2.toInt = 1 ∨ p2.toInt = 2 ∨ p2.toInt = 3 ∨ p2.toInt = 4 ∨ p2.toInt = 5 ∨ p2.toInt = 6 by omega) with w4 | w4 | w4 | w4 | w4 | w4 | w4
      · refine lv_tableIn (tgt := 60) (off := 43) hx hb dX11_key_17 (by omega) (by omega) (by rw [w4]; rfl) (by decide) ?_
        refine lv_aload_n hx hb dX11_key_60 rfl (lv_at hl 0 rfl) ?_
        obtain ⟨ci5, cu6, mk7, c9, v8⟩ := hH.oKey k2
        rcases c9 with rfl | rfl | rfl | rfl
        · refine hw_cR (va_runU (As := []) (rest := []) ⟨hx, hb, hml, hown, hts⟩ (k_X0_kindNumber l D G b1 _ k2) (va_cwA 0 hts gX11_key_X0_kindNumber_u101X0 rfl rfl rfl (hw_ed_kindNumber hST.ex) (by decide +kernel) ⟨Nat.le_of_ble_eq_true rfl, Nat.le_of_ble_eq_true rfl⟩) (hw_pV (hw_rc (q := (RX0, TX0, 2)) hK v8 rfl) hH hK hST hS (by decide) (fun _ h => Or.inl h) trivial) rfl rfl hl.1 rfl (lv_room (Nat.le_of_ble_eq_true rfl)) dX11_key_61 ⟨Nat.le_of_ble_eq_true rfl, Nat.le_of_ble_eq_true rfl⟩) (fun v hp => ?_)
          obtain ⟨x10, rfl⟩ := hp
          exact hw_iretR (v := x10) hx hb hr hlocks hQ rfl (⟨x10, rfl, (by first | rfl | trivial | assumption | omega | (intros; first | rfl | assumption | omega | (exfalso; omega)))⟩) dX11_key_64
        · refine hw_cR (va_runU (As := []) (rest := []) ⟨hx, hb, hml, hown, hts⟩ (k_X2_kindNumber l D G b1 _ k2) (va_cwA 0 hts gX11_key_X2_kindNumber_u101X2 rfl rfl rfl (hw_ed_kindNumber hST.ex) (by decide +kernel) ⟨Nat.le_of_ble_eq_true rfl, Nat.le_of_ble_eq_true rfl⟩) (hw_pV (hw_rc (q := (RX2, TX2, 2)) hK v8 rfl) hH hK hST hS (by decide) (fun _ h => Or.inl h) trivial) rfl rfl hl.1 rfl (lv_room (Nat.le_of_ble_eq_true rfl)) dX11_key_61 ⟨Nat.le_of_ble_eq_true rfl, Nat.le_of_ble_eq_true rfl⟩) (fun v hp => ?_)
          obtain ⟨x11, rfl⟩ := hp
          exact hw_iretR (v := x11) hx hb hr hlocks hQ rfl (⟨x11, rfl, (by first | rfl | trivial | assumption | omega | (intros; first | rfl | assumption | omega | (exfalso; omega)))⟩) dX11_key_64
        · refine hw_cR (va_runU (As := []) (rest := []) ⟨hx, hb, hml, hown, hts⟩ (k_X5_kindNumber l D G b1 _ k2) (va_cwA 0 hts gX11_key_X5_kindNumber_u101X5 rfl rfl rfl (hw_ed_kindNumber hST.ex) (by decide +kernel) ⟨Nat.le_of_ble_eq_true rfl, Nat.le_of_ble_eq_true rfl⟩) (hw_pV (hw_rc (q := (RX5, TX5, 2)) hK v8 rfl) hH hK hST hS (by decide) (fun _ h => Or.inl h) trivial) rfl rfl hl.1 rfl (lv_room (Nat.le_of_ble_eq_true rfl)) dX11_key_61 ⟨Nat.le_of_ble_eq_true rfl, Nat.le_of_ble_eq_true rfl⟩) (fun v hp => ?_)
          obtain ⟨x12, rfl⟩ := hp
          exact hw_iretR (v := x12) hx hb hr hlocks hQ rfl (⟨x12, rfl, (by first | rfl | trivial | assumption | omega | (intros; first | rfl | assumption | omega | (exfalso; omega)))⟩) dX11_key_64
        · refine hw_cR (va_runU (As := []) (rest := []) ⟨hx, hb, hml, hown, hts⟩ (k_X8_kindNumber l D G b1 _ k2) (va_cwA 0 hts gX11_key_X8_kindNumber_u101X8 rfl rfl rfl (hw_ed_kindNumber hST.ex) (by decide +kernel) ⟨Nat.le_of_ble_eq_true rfl, Nat.le_of_ble_eq_true rfl⟩) (hw_pV (hw_rc (q := (RX8, TX8, 2)) hK v8 rfl) hH hK hST hS (by decide) (fun _ h => Or.inl h) trivial) rfl rfl hl.1 rfl (lv_room (Nat.le_of_ble_eq_true rfl)) dX11_key_61 ⟨Nat.le_of_ble_eq_true rfl, Nat.le_of_ble_eq_true rfl⟩) (fun v hp => ?_)
          obtain ⟨x13, rfl⟩ := hp
          exact hw_iretR (v := x13) hx hb hr hlocks hQ rfl (⟨x13, rfl, (by first | rfl | trivial | assumption | omega | (intros; first | rfl | assumption | omega | (exfalso; omega)))⟩) dX11_key_64
      · refine lv_tableIn (tgt := 65) (off := 48) hx hb dX11_key_17 (by omega) (by omega) (by rw [w4]; rfl) (by decide) ?_
        refine lv_aload_n hx hb dX11_key_65 rfl (lv_at hl 0 rfl) ?_
        obtain ⟨ci14, cu15, mk16, c18, v17⟩ := hH.oKey k2
        rcases c18 with rfl | rfl | rfl | rfl
        · refine hw_get hx hb fg_107_0 hK v17 rfl dX11_key_66 ?_
          exact hw_iretR (v := cu15) hx hb hr hlocks hQ rfl (⟨cu15, rfl, (by first | rfl | trivial | assumption | omega | (intros; first | rfl | assumption | omega | (exfalso; omega)))⟩) dX11_key_69
        · refine hw_get hx hb fg_107_2 hK v17 rfl dX11_key_66 ?_
          exact hw_iretR (v := cu15) hx hb hr hlocks hQ rfl (⟨cu15, rfl, (by first | rfl | trivial | assumption | omega | (intros; first | rfl | assumption | omega | (exfalso; omega)))⟩) dX11_key_69
        · refine hw_get hx hb fg_107_4 hK v17 rfl dX11_key_66 ?_
          exact hw_iretR (v := cu15) hx hb hr hlocks hQ rfl (⟨cu15, rfl, (by first | rfl | trivial | assumption | omega | (intros; first | rfl | assumption | omega | (exfalso; omega)))⟩) dX11_key_69
        · refine hw_get hx hb fg_107_7 hK v17 rfl dX11_key_66 ?_
          exact hw_iretR (v := cu15) hx hb hr hlocks hQ rfl (⟨cu15, rfl, (by first | rfl | trivial | assumption | omega | (intros; first | rfl | assumption | omega | (exfalso; omega)))⟩) dX11_key_69
      · refine lv_tableIn (tgt := 70) (off := 53) hx hb dX11_key_17 (by omega) (by omega) (by rw [w4]; rfl) (by decide) ?_
        refine lv_aload_n hx hb dX11_key_70 rfl (lv_at hl 0 rfl) ?_
        obtain ⟨ci19, cu20, mk21, c23, v22⟩ := hH.oKey k2
        rcases c23 with rfl | rfl | rfl | rfl
        · refine hw_get hx hb fg_110_0 hK v22 rfl dX11_key_71 ?_
          exact hw_iretR (v := mk21) hx hb hr hlocks hQ rfl (⟨mk21, rfl, (by first | rfl | trivial | assumption | omega | (intros; first | rfl | assumption | omega | (exfalso; omega)))⟩) dX11_key_74
        · refine hw_get hx hb fg_110_2 hK v22 rfl dX11_key_71 ?_
          exact hw_iretR (v := mk21) hx hb hr hlocks hQ rfl (⟨mk21, rfl, (by first | rfl | trivial | assumption | omega | (intros; first | rfl | assumption | omega | (exfalso; omega)))⟩) dX11_key_74
        · refine hw_get hx hb fg_110_4 hK v22 rfl dX11_key_71 ?_
          exact hw_iretR (v := mk21) hx hb hr hlocks hQ rfl (⟨mk21, rfl, (by first | rfl | trivial | assumption | omega | (intros; first | rfl | assumption | omega | (exfalso; omega)))⟩) dX11_key_74
        · refine hw_get hx hb fg_110_7 hK v22 rfl dX11_key_71 ?_
          exact hw_iretR (v := mk21) hx hb hr hlocks hQ rfl (⟨mk21, rfl, (by first | rfl | trivial | assumption | omega | (intros; first | rfl | assumption | omega | (exfalso; omega)))⟩) dX11_key_74
      · refine lv_tableIn (tgt := 75) (off := 58) hx hb dX11_key_17 (by omega) (by omega) (by rw [w4]; rfl) (by decide) ?_
        refine lv_aload_n hx hb dX11_key_75 rfl (lv_at hl 1 rfl) ?_
        refine hw_get hx hb fg_26_10 hK vx rfl dX11_key_76 ?_
        refine lv_iload_n hx hb dX11_key_79 rfl (lv_at hl 2 rfl) ?_
        obtain ⟨r24, td_25, fd_26, os_27, v28, R29⟩ := hH.oS (hw_RX_2 Rx)
        refine hw_cR (va_runV (As := [.int p1]) (rest := []) ⟨hx, hb, hml, hown, hts⟩ (k_X9_bentOf l D G (rx 2) p1 _ (hw_RX_2 Rx)) (cwV 1 hts gX11_key_X9_bentOf rfl rfl rfl (by decide +kernel) ⟨Nat.le_of_ble_eq_true rfl, Nat.le_of_ble_eq_true rfl⟩) (hw_pV (hw_rc (q := (RX9, TX9, 7)) hK v28 rfl) hH hK hST hS (by decide) (fun _ h => Or.inl h) trivial) rfl rfl hl.1 rfl (lv_room (Nat.le_of_ble_eq_true rfl)) dX11_key_80 ⟨Nat.le_of_ble_eq_true rfl, Nat.le_of_ble_eq_true rfl⟩) (fun v hp => ?_)
        obtain ⟨x30, rfl⟩ := hp
        exact hw_iretR (v := x30) hx hb hr hlocks hQ rfl (⟨x30, rfl, (by first | rfl | trivial | assumption | omega | (intros; first | rfl | assumption | omega | (exfalso; omega)))⟩) dX11_key_83
      · refine lv_tableIn (tgt := 84) (off := 67) hx hb dX11_key_17 (by omega) (by omega) (by rw [w4]; rfl) (by decide) ?_
        refine lv_aload_n hx hb dX11_key_84 rfl (lv_at hl 1 rfl) ?_
        refine hw_get hx hb fg_26_10 hK vx rfl dX11_key_85 ?_
        refine lv_iload_n hx hb dX11_key_88 rfl (lv_at hl 2 rfl) ?_
        obtain ⟨r31, td_32, fd_33, os_34, v35, R36⟩ := hH.oS (hw_RX_2 Rx)
        refine hw_cR (va_runV (As := [.int p1]) (rest := []) ⟨hx, hb, hml, hown, hts⟩ (k_X9_turnedOf l D G (rx 2) p1 _ (hw_RX_2 Rx)) (cwV 1 hts gX11_key_X9_turnedOf rfl rfl rfl (by decide +kernel) ⟨Nat.le_of_ble_eq_true rfl, Nat.le_of_ble_eq_true rfl⟩) (hw_pV (hw_rc (q := (RX9, TX9, 7)) hK v35 rfl) hH hK hST hS (by decide) (fun _ h => Or.inl h) trivial) rfl rfl hl.1 rfl (lv_room (Nat.le_of_ble_eq_true rfl)) dX11_key_89 ⟨Nat.le_of_ble_eq_true rfl, Nat.le_of_ble_eq_true rfl⟩) (fun v hp => ?_)
        obtain ⟨x37, rfl⟩ := hp
        exact hw_iretR (v := x37) hx hb hr hlocks hQ rfl (⟨x37, rfl, (by first | rfl | trivial | assumption | omega | (intros; first | rfl | assumption | omega | (exfalso; omega)))⟩) dX11_key_92
      · refine lv_tableIn (tgt := 93) (off := 76) hx hb dX11_key_17 (by omega) (by omega) (by rw [w4]; rfl) (by decide) ?_
        refine lv_aload_n hx hb dX11_key_93 rfl (lv_at hl 0 rfl) ?_
        refine lv_aload_n hx hb dX11_key_94 rfl (lv_at hl 1 rfl) ?_
        refine hw_get hx hb fg_26_10 hK vx rfl dX11_key_95 ?_
        refine lv_iload_n hx hb dX11_key_98 rfl (lv_at hl 2 rfl) ?_
        obtain ⟨r38, td_39, fd_40, os_41, v42, R43⟩ := hH.oS (hw_RX_2 Rx)
        refine hw_cR (va_runV (As := [.int p1]) (rest := [.ref b1]) ⟨hx, hb, hml, hown, hts⟩ (k_X9_bentOf l D G (rx 2) p1 _ (hw_RX_2 Rx)) (cwV 1 hts gX11_key_X9_bentOf rfl rfl rfl (by decide +kernel) ⟨Nat.le_of_ble_eq_true rfl, Nat.le_of_ble_eq_true rfl⟩) (hw_pV (hw_rc (q := (RX9, TX9, 7)) hK v42 rfl) hH hK hST hS (by decide) (fun _ h => Or.inl h) trivial) rfl rfl hl.1 rfl (lv_room (Nat.le_of_ble_eq_true rfl)) dX11_key_99 ⟨Nat.le_of_ble_eq_true rfl, Nat.le_of_ble_eq_true rfl⟩) (fun v hp => ?_)
        obtain ⟨x44, rfl⟩ := hp
        obtain ⟨ci45, cu46, mk47, c49, v48⟩ := hH.oKey k2
        rcases c49 with rfl | rfl | rfl | rfl
        · refine hw_cR (va_runU (As := [.int x44]) (rest := []) ⟨hx, hb, hml, hown, hts⟩ (k_X0_edge l D G b1 x44 _ 0 cu46 mk47 k2 (by first | assumption | decide | omega)) (va_cwA 1 hts gX11_key_X0_edge_u120X0 rfl rfl rfl (hw_ed_edge hST.ex) (by decide +kernel) ⟨Nat.le_of_ble_eq_true rfl, Nat.le_of_ble_eq_true rfl⟩) (hw_pV (hw_rc (q := (RX0, TX0, 2)) hK v48 rfl) hH hK hST hS (by decide) (fun _ h => Or.inl h) v48) rfl rfl hl.1 rfl (lv_room (Nat.le_of_ble_eq_true rfl)) dX11_key_102 ⟨Nat.le_of_ble_eq_true rfl, Nat.le_of_ble_eq_true rfl⟩) (fun v hp => ?_)
          obtain ⟨x50, rfl⟩ := hp
          exact hw_iretR (v := x50) hx hb hr hlocks hQ rfl (⟨x50, rfl, (by first | rfl | trivial | assumption | omega | (intros; first | rfl | assumption | omega | (exfalso; omega)))⟩) dX11_key_105
        · refine hw_cR (va_runU (As := [.int x44]) (rest := []) ⟨hx, hb, hml, hown, hts⟩ (k_X2_edge l D G b1 x44 _ 2 cu46 mk47 k2 (by first | assumption | decide | omega)) (va_cwA 1 hts gX11_key_X2_edge_u120X2 rfl rfl rfl (hw_ed_edge hST.ex) (by decide +kernel) ⟨Nat.le_of_ble_eq_true rfl, Nat.le_of_ble_eq_true rfl⟩) (hw_pV (hw_rc (q := (RX2, TX2, 2)) hK v48 rfl) hH hK hST hS (by decide) (fun _ h => Or.inl h) v48) rfl rfl hl.1 rfl (lv_room (Nat.le_of_ble_eq_true rfl)) dX11_key_102 ⟨Nat.le_of_ble_eq_true rfl, Nat.le_of_ble_eq_true rfl⟩) (fun v hp => ?_)
          obtain ⟨x51, rfl⟩ := hp
          exact hw_iretR (v := x51) hx hb hr hlocks hQ rfl (⟨x51, rfl, (by first | rfl | trivial | assumption | omega | (intros; first | rfl | assumption | omega | (exfalso; omega)))⟩) dX11_key_105
        · refine hw_cR (va_runU (As := [.int x44]) (rest := []) ⟨hx, hb, hml, hown, hts⟩ (k_X0_edge l D G b1 x44 _ 4 cu46 mk47 k2 (by first | assumption | decide | omega)) (va_cwA 1 hts gX11_key_X0_edge_u120X5 rfl rfl rfl (hw_ed_edge hST.ex) (by decide +kernel) ⟨Nat.le_of_ble_eq_true rfl, Nat.le_of_ble_eq_true rfl⟩) (hw_pV (hw_rc (q := (RX5, TX5, 2)) hK v48 rfl) hH hK hST hS (by decide) (fun _ h => Or.inl h) v48) rfl rfl hl.1 rfl (lv_room (Nat.le_of_ble_eq_true rfl)) dX11_key_102 ⟨Nat.le_of_ble_eq_true rfl, Nat.le_of_ble_eq_true rfl⟩) (fun v hp => ?_)
          obtain ⟨x52, rfl⟩ := hp
          exact hw_iretR (v := x52) hx hb hr hlocks hQ rfl (⟨x52, rfl, (by first | rfl | trivial | assumption | omega | (intros; first | rfl | assumption | omega | (exfalso; omega)))⟩) dX11_key_105
        · refine hw_cR (va_runU (As := [.int x44]) (rest := []) ⟨hx, hb, hml, hown, hts⟩ (k_X8_edge l D G b1 x44 _ 7 cu46 mk47 k2 (by first | assumption | decide | omega)) (va_cwA 1 hts gX11_key_X8_edge_u120X8 rfl rfl rfl (hw_ed_edge hST.ex) (by decide +kernel) ⟨Nat.le_of_ble_eq_true rfl, Nat.le_of_ble_eq_true rfl⟩) (hw_pV (hw_rc (q := (RX8, TX8, 2)) hK v48 rfl) hH hK hST hS (by decide) (fun _ h => Or.inl h) v48) rfl rfl hl.1 rfl (lv_room (Nat.le_of_ble_eq_true rfl)) dX11_key_102 ⟨Nat.le_of_ble_eq_true rfl, Nat.le_of_ble_eq_true rfl⟩) (fun v hp => ?_)
          obtain ⟨x53, rfl⟩ := hp
          exact hw_iretR (v := x53) hx hb hr hlocks hQ rfl (⟨x53, rfl, (by first | rfl | trivial | assumption | omega | (intros; first | rfl | assumption | omega | (exfalso; omega)))⟩) dX11_key_105
      · refine lv_tableIn (tgt := 106) (off := 89) hx hb dX11_key_17 (by omega) (by omega) (by rw [w4]; rfl) (by decide) ?_
        refine lv_aload_n hx hb dX11_key_106 rfl (lv_at hl 1 rfl) ?_
        refine lv_iload_n hx hb dX11_key_107 rfl (lv_at hl 2 rfl) ?_
        refine hw_cR (va_runV (As := [.int p1]) (rest := []) ⟨hx, hb, hml, hown, hts⟩ (k_X11_isBroken l D G h0 p1 _ G0) (cwV 1 hts gX11_key_X11_isBroken rfl rfl rfl (by decide +kernel) ⟨Nat.le_of_ble_eq_true rfl, Nat.le_of_ble_eq_true rfl⟩) (hw_pV (hw_rc (q := (RX11, TX11, 14)) hK vx rfl) hH hK hST hS (by decide) (fun _ h => Or.inl h) trivial) rfl rfl hl.1 rfl (lv_room (Nat.le_of_ble_eq_true rfl)) dX11_key_108 ⟨Nat.le_of_ble_eq_true rfl, Nat.le_of_ble_eq_true rfl⟩) (fun v hp => ?_)
        rcases hp with rfl | rfl
        · refine lv_if_eq (tgt := 118) hx hb dX11_key_111 (by decide) (fun c54 => ?_) (fun c54 => ?_)
          · exact absurd c54 (by decide)
          · refine lv_iconst (v := 1) hx hb dX11_key_114 (by decide) ?_
            refine lv_goto (tgt := 119) hx hb dX11_key_115 (by decide) ?_
            exact hw_iretR (v := 1) hx hb hr hlocks hQ rfl (⟨1, rfl, (by first | rfl | trivial | assumption | omega | (intros; first | rfl | assumption | omega | (exfalso; omega)))⟩) dX11_key_119
        · refine lv_if_eq (tgt := 118) hx hb dX11_key_111 (by decide) (fun c55 => ?_) (fun c55 => ?_)
          · refine lv_iconst (v := 0) hx hb dX11_key_118 (by decide) ?_
            exact hw_iretR (v := 0) hx hb hr hlocks hQ rfl (⟨0, rfl, (by first | rfl | trivial | assumption | omega | (intros; first | rfl | assumption | omega | (exfalso; omega)))⟩) dX11_key_119
          · exact absurd c55 (by decide)

set_option maxHeartbeats 4000000 in
set_option maxRecDepth 100000 in
theorem k_X11_lock (l : Launch) (D : hw_D) (G : Nat → Nat) (h0 : Nat) (p1 : Int32) (p2 : Int32) (sz : Nat) (rx : Nat → Nat) (pn_x pc_x ks_x sc_x : Int32) (rc : Nat → Nat) (kc_c lc_c wc_c dk_c : Int32) (G0 : G h0 = 1) (Rx : hw_RX G rx) (gsc_x : 0 ≤ sc_x.toInt ∧ sc_x.toInt ≤ 6) (Rc : hw_RC G rc) (gkc_c : 0 ≤ kc_c.toInt ∧ kc_c.toInt ≤ 7) (glc_c : 0 ≤ lc_c.toInt ∧ lc_c.toInt ≤ 7) (gwc_c : 0 ≤ wc_c.toInt ∧ wc_c.toInt ≤ 3) : Met l yX11_lock wsX11_lock ({ frames := 1, cells := 0, slots := 0, locals := 21 } : Room) (hw_PC D G [.ref h0, .int p1, .int p2] sz (fun H => va_at D.1 vwCl (h0, .inr (10, hw_LX rx pn_x pc_x ks_x sc_x)) H ∧ va_at D.1 vwCl ((rx 0), .inr (1, hw_LC rc kc_c lc_c wc_c dk_c)) H)) (hw_QR (fun v => ∃ (r : Int32), v = .int r ∧ (lc_c.toInt = 0 → r.toInt = -2))) 0 0 (fun _ => False) := by
  refine hw_met (cc := cX11_lock) (maxL := 4) (ret := (some .int)) (plainFor_of_name (by decide)) rfl (Nat.le_of_ble_eq_true rfl) ?_
  intro p e s m args below meth c QQ ls hsz hx hb hml hr hts hown hlocks hnm hH hK hST hF hQ hl
  subst hsz
  have hS : va_S (hw_AW G [] s.heap.size) s.heap s.heap [] := va_S.rf
  obtain ⟨vx, vc⟩ := hF
  have hl : lv_has ls 4 [(0, .ref h0), (1, .int p1), (2, .int p2)] := hl
  have u_10 : ∀ w ∈ u_ws RX11 TX11 14, w.before args s = true := fun w hw => hts w ((by decide +kernel : ∀ w ∈ u_ws RX11 TX11 14, w ∈ wsX11_lock) w hw)
  have fg_10_10 : hw_FG s args m 10 10 0 := ⟨RX11, "WardWalkers", RX11, TX11, 14, u_10, hown, rfl, by decide, (hts (.fieldLink RX11 10 "WardWalkers" "country" "LWardWalkers$Country;") (by decide +kernel)), (fun _ h9 => h9)⟩
  have u_3 : ∀ w ∈ u_ws RX4 TX4 4, w.before args s = true := fun w hw => hts w ((by decide +kernel : ∀ w ∈ u_ws RX4 TX4 4, w ∈ wsX11_lock) w hw)
  have fg_131_3 : hw_FG s args m 131 3 0 := ⟨RX11, "WardWalkers$Lock", RX4, TX4, 4, u_3, hown, rfl, by decide, (hts (.fieldLink RX11 131 "WardWalkers$Lock" "place" "I") (by decide +kernel)), (fun _ h9 => h9)⟩
  have fg_136_3 : hw_FG s args m 136 3 1 := ⟨RX11, "WardWalkers$Lock", RX4, TX4, 4, u_3, hown, rfl, by decide, (hts (.fieldLink RX11 136 "WardWalkers$Lock" "wanted" "I") (by decide +kernel)), (fun _ h9 => h9)⟩
  have fg_139_3 : hw_FG s args m 139 3 2 := ⟨RX11, "WardWalkers$Lock", RX4, TX4, 4, u_3, hown, rfl, by decide, (hts (.fieldLink RX11 139 "WardWalkers$Lock" "play" "I") (by decide +kernel)), (fun _ h9 => h9)⟩
  have fg_142_3 : hw_FG s args m 142 3 3 := ⟨RX11, "WardWalkers$Lock", RX4, TX4, 4, u_3, hown, rfl, by decide, (hts (.fieldLink RX11 142 "WardWalkers$Lock" "value" "I") (by decide +kernel)), (fun _ h9 => h9)⟩
  have fg_26_10 : hw_FG s args m 26 10 2 := ⟨RX11, "WardWalkers", RX11, TX11, 14, u_10, hown, rfl, by decide, (hts (.fieldLink RX11 26 "WardWalkers" "now" "LWardWalkers$Standing;") (by decide +kernel)), (fun _ h9 => h9)⟩
  refine lv_aload_n hx hb dX11_lock_0 rfl (lv_at hl 0 rfl) ?_
  refine hw_get hx hb fg_10_10 hK vx rfl dX11_lock_1 ?_
  refine lv_iload_n hx hb dX11_lock_4 rfl (lv_at hl 1 rfl) ?_
  refine hw_cR (va_runV (As := [.int p1]) (rest := []) ⟨hx, hb, hml, hown, hts⟩ (k_X1_lockAt l D G (rx 0) p1 _ rc kc_c lc_c wc_c dk_c (hw_RX_0 Rx) Rc ⟨by first | decide | omega, by first | decide | omega⟩ ⟨by first | decide | omega, by first | decide | omega⟩ ⟨by first | decide | omega, by first | decide | omega⟩) (cwV 1 hts gX11_lock_X1_lockAt rfl rfl rfl (by decide +kernel) ⟨Nat.le_of_ble_eq_true rfl, Nat.le_of_ble_eq_true rfl⟩) (hw_pV (hw_rc (q := (RX1, TX1, 7)) hK vc rfl) hH hK hST hS (by decide) (fun _ h => Or.inl h) vc) rfl rfl hl.1 rfl (lv_room (Nat.le_of_ble_eq_true rfl)) dX11_lock_5 ⟨Nat.le_of_ble_eq_true rfl, Nat.le_of_ble_eq_true rfl⟩) (fun v hp => ?_)
  rcases hp with rfl | ⟨b1, rfl, k2, q3⟩
  · refine lv_astore_nN (lv' := [(3, .null), (0, .ref h0), (1, .int p1), (2, .int p2)]) hx hb dX11_lock_8 rfl hl (by decide) rfl (fun ls hl => ?_)
    refine lv_aload_nN hx hb dX11_lock_9 rfl (lv_at hl 0 rfl) ?_
    refine lv_ifnonnullN hx hb dX11_lock_10 ?_
    refine lv_bipush (v := (-2)) hx hb dX11_lock_13 (by decide) ?_
    exact hw_iretR (v := (-2)) hx hb hr hlocks hQ rfl (⟨(-2), rfl, (by first | rfl | trivial | assumption | omega | (intros; first | rfl | assumption | omega | (exfalso; omega)))⟩) dX11_lock_15
  · refine lv_astore_n (lv' := [(3, .ref b1), (0, .ref h0), (1, .int p1), (2, .int p2)]) hx hb dX11_lock_8 rfl hl (by decide) rfl (fun ls hl => ?_)
    refine lv_aload_n hx hb dX11_lock_9 rfl (lv_at hl 0 rfl) ?_
    refine lv_ifnonnull (tgt := 16) hx hb dX11_lock_10 (by decide) ?_
    refine lv_iload_n hx hb dX11_lock_16 rfl (lv_at hl 3 rfl) ?_
    by_cases w4 : p2.toInt < 0 ∨ 4 < p2.toInt
    · refine lv_tableOut (tgt := 89) hx hb dX11_lock_17 w4 (by decide) ?_
      refine lv_bipush (v := (-3)) hx hb dX11_lock_89 (by decide) ?_
      exact hw_iretR (v := (-3)) hx hb hr hlocks hQ rfl (⟨(-3), rfl, (by first | rfl | trivial | assumption | omega | (intros; first | rfl | assumption | omega | (exfalso; omega)))⟩) dX11_lock_91
    · rcases (show p2.toInt = 0 ∨ p2.toInt = 1 ∨ p2.toInt = 2 ∨ p2.toInt = 3 ∨ p2.toInt = 4 by omega) with w4 | w4 | w4 | w4 | w4
      · refine lv_tableIn (tgt := 52) (off := 35) hx hb dX11_lock_17 (by omega) (by omega) (by rw [w4]; rfl) (by decide) ?_
        refine lv_aload_n hx hb dX11_lock_52 rfl (lv_at hl 0 rfl) ?_
        obtain ⟨r5, pl_6, wa_7, py_8, va_9, v10⟩ := hH.oL k2
        refine hw_get hx hb fg_131_3 hK v10 rfl dX11_lock_53 ?_
        exact hw_iretR (v := pl_6) hx hb hr hlocks hQ rfl (⟨pl_6, rfl, (by first | rfl | trivial | assumption | omega | (intros; first | rfl | assumption | omega | (exfalso; omega)))⟩) dX11_lock_56
      · refine lv_tableIn (tgt := 57) (off := 40) hx hb dX11_lock_17 (by omega) (by omega) (by rw [w4]; rfl) (by decide) ?_
        refine lv_aload_n hx hb dX11_lock_57 rfl (lv_at hl 0 rfl) ?_
        obtain ⟨r12, pl_13, wa_14, py_15, va_16, v17⟩ := hH.oL k2
        refine hw_get hx hb fg_136_3 hK v17 rfl dX11_lock_58 ?_
        exact hw_iretR (v := wa_14) hx hb hr hlocks hQ rfl (⟨wa_14, rfl, (by first | rfl | trivial | assumption | omega | (intros; first | rfl | assumption | omega | (exfalso; omega)))⟩) dX11_lock_61
      · refine lv_tableIn (tgt := 62) (off := 45) hx hb dX11_lock_17 (by omega) (by omega) (by rw [w4]; rfl) (by decide) ?_
        refine lv_aload_n hx hb dX11_lock_62 rfl (lv_at hl 0 rfl) ?_
        obtain ⟨r19, pl_20, wa_21, py_22, va_23, v24⟩ := hH.oL k2
        refine hw_get hx hb fg_139_3 hK v24 rfl dX11_lock_63 ?_
        exact hw_iretR (v := py_22) hx hb hr hlocks hQ rfl (⟨py_22, rfl, (by first | rfl | trivial | assumption | omega | (intros; first | rfl | assumption | omega | (exfalso; omega)))⟩) dX11_lock_66
      · refine lv_tableIn (tgt := 67) (off := 50) hx hb dX11_lock_17 (by omega) (by omega) (by rw [w4]; rfl) (by decide) ?_
        refine lv_aload_n hx hb dX11_lock_67 rfl (lv_at hl 0 rfl) ?_
        obtain ⟨r26, pl_27, wa_28, py_29, va_30, v31⟩ := hH.oL k2
        refine hw_get hx hb fg_142_3 hK v31 rfl dX11_lock_68 ?_
        exact hw_iretR (v := va_30) hx hb hr hlocks hQ rfl (⟨va_30, rfl, (by first | rfl | trivial | assumption | omega | (intros; first | rfl | assumption | omega | (exfalso; omega)))⟩) dX11_lock_71
      · refine lv_tableIn (tgt := 72) (off := 55) hx hb dX11_lock_17 (by omega) (by omega) (by rw [w4]; rfl) (by decide) ?_
        refine lv_aload_n hx hb dX11_lock_72 rfl (lv_at hl 1 rfl) ?_
        refine hw_get hx hb fg_26_10 hK vx rfl dX11_lock_73 ?_
        refine lv_iload_n hx hb dX11_lock_76 rfl (lv_at hl 2 rfl) ?_
        obtain ⟨r33, td_34, fd_35, os_36, v37, R38⟩ := hH.oS (hw_RX_2 Rx)
        refine hw_cR (va_runV (As := [.int p1]) (rest := []) ⟨hx, hb, hml, hown, hts⟩ (k_X9_isOpen l D G (rx 2) p1 _ (hw_RX_2 Rx)) (cwV 1 hts gX11_lock_X9_isOpen rfl rfl rfl (by decide +kernel) ⟨Nat.le_of_ble_eq_true rfl, Nat.le_of_ble_eq_true rfl⟩) (hw_pV (hw_rc (q := (RX9, TX9, 7)) hK v37 rfl) hH hK hST hS (by decide) (fun _ h => Or.inl h) trivial) rfl rfl hl.1 rfl (lv_room (Nat.le_of_ble_eq_true rfl)) dX11_lock_77 ⟨Nat.le_of_ble_eq_true rfl, Nat.le_of_ble_eq_true rfl⟩) (fun v hp => ?_)
        rcases hp with rfl | rfl
        · refine lv_if_eq (tgt := 87) hx hb dX11_lock_80 (by decide) (fun c39 => ?_) (fun c39 => ?_)
          · exact absurd c39 (by decide)
          · refine lv_iconst (v := 1) hx hb dX11_lock_83 (by decide) ?_
            refine lv_goto (tgt := 88) hx hb dX11_lock_84 (by decide) ?_
            exact hw_iretR (v := 1) hx hb hr hlocks hQ rfl (⟨1, rfl, (by first | rfl | trivial | assumption | omega | (intros; first | rfl | assumption | omega | (exfalso; omega)))⟩) dX11_lock_88
        · refine lv_if_eq (tgt := 87) hx hb dX11_lock_80 (by decide) (fun c40 => ?_) (fun c40 => ?_)
          · refine lv_iconst (v := 0) hx hb dX11_lock_87 (by decide) ?_
            exact hw_iretR (v := 0) hx hb hr hlocks hQ rfl (⟨0, rfl, (by first | rfl | trivial | assumption | omega | (intros; first | rfl | assumption | omega | (exfalso; omega)))⟩) dX11_lock_88
          · exact absurd c40 (by decide)

set_option maxHeartbeats 4000000 in
set_option maxRecDepth 100000 in
theorem k_X11_walker (l : Launch) (D : hw_D) (G : Nat → Nat) (h0 : Nat) (p1 : Int32) (p2 : Int32) (sz : Nat) (rx : Nat → Nat) (pn_x pc_x ks_x sc_x : Int32) (rc : Nat → Nat) (kc_c lc_c wc_c dk_c : Int32) (G0 : G h0 = 1) (Rx : hw_RX G rx) (gsc_x : 0 ≤ sc_x.toInt ∧ sc_x.toInt ≤ 6) (Rc : hw_RC G rc) (gkc_c : 0 ≤ kc_c.toInt ∧ kc_c.toInt ≤ 7) (glc_c : 0 ≤ lc_c.toInt ∧ lc_c.toInt ≤ 7) (gwc_c : 0 ≤ wc_c.toInt ∧ wc_c.toInt ≤ 3) : Met l yX11_walker wsX11_walker ({ frames := 1, cells := 0, slots := 0, locals := 21 } : Room) (hw_PC D G [.ref h0, .int p1, .int p2] sz (fun H => va_at D.1 vwCl (h0, .inr (10, hw_LX rx pn_x pc_x ks_x sc_x)) H ∧ va_at D.1 vwCl ((rx 0), .inr (1, hw_LC rc kc_c lc_c wc_c dk_c)) H)) (hw_QR (fun v => ∃ (r : Int32), v = .int r ∧ (wc_c.toInt = 0 → r.toInt = -2))) 0 0 (fun _ => False) := by
  refine hw_met (cc := cX11_walker) (maxL := 3) (ret := (some .int)) (plainFor_of_name (by decide)) rfl (Nat.le_of_ble_eq_true rfl) ?_
  intro p e s m args below meth c QQ ls hsz hx hb hml hr hts hown hlocks hnm hH hK hST hF hQ hl
  subst hsz
  have hS : va_S (hw_AW G [] s.heap.size) s.heap s.heap [] := va_S.rf
  obtain ⟨vx, vc⟩ := hF
  have hl : lv_has ls 3 [(0, .ref h0), (1, .int p1), (2, .int p2)] := hl
  have u_10 : ∀ w ∈ u_ws RX11 TX11 14, w.before args s = true := fun w hw => hts w ((by decide +kernel : ∀ w ∈ u_ws RX11 TX11 14, w ∈ wsX11_walker) w hw)
  have fg_10_10 : hw_FG s args m 10 10 0 := ⟨RX11, "WardWalkers", RX11, TX11, 14, u_10, hown, rfl, by decide, (hts (.fieldLink RX11 10 "WardWalkers" "country" "LWardWalkers$Country;") (by decide +kernel)), (fun _ h9 => h9)⟩
  have fg_26_10 : hw_FG s args m 26 10 2 := ⟨RX11, "WardWalkers", RX11, TX11, 14, u_10, hown, rfl, by decide, (hts (.fieldLink RX11 26 "WardWalkers" "now" "LWardWalkers$Standing;") (by decide +kernel)), (fun _ h9 => h9)⟩
  refine lv_aload_n hx hb dX11_walker_0 rfl (lv_at hl 0 rfl) ?_
  refine hw_get hx hb fg_10_10 hK vx rfl dX11_walker_1 ?_
  refine lv_iload_n hx hb dX11_walker_4 rfl (lv_at hl 1 rfl) ?_
  refine hw_cR (va_runV (As := [.int p1]) (rest := []) ⟨hx, hb, hml, hown, hts⟩ (k_X1_hasWalker l D G (rx 0) p1 _ rc kc_c lc_c wc_c dk_c (hw_RX_0 Rx) Rc ⟨by first | decide | omega, by first | decide | omega⟩ ⟨by first | decide | omega, by first | decide | omega⟩ ⟨by first | decide | omega, by first | decide | omega⟩) (cwV 1 hts gX11_walker_X1_hasWalker rfl rfl rfl (by decide +kernel) ⟨Nat.le_of_ble_eq_true rfl, Nat.le_of_ble_eq_true rfl⟩) (hw_pV (hw_rc (q := (RX1, TX1, 7)) hK vc rfl) hH hK hST hS (by decide) (fun _ h => Or.inl h) vc) rfl rfl hl.1 rfl (lv_room (Nat.le_of_ble_eq_true rfl)) dX11_walker_5 ⟨Nat.le_of_ble_eq_true rfl, Nat.le_of_ble_eq_true rfl⟩) (fun v hp => ?_)
  rcases hp with rfl | ⟨rfl, q1⟩
  · refine lv_if_ne (tgt := 14) hx hb dX11_walker_8 (by decide) (fun c2 => ?_) (fun c2 => ?_)
    · exact absurd c2 (by decide)
    · refine lv_bipush (v := (-2)) hx hb dX11_walker_11 (by decide) ?_
      exact hw_iretR (v := (-2)) hx hb hr hlocks hQ rfl (⟨(-2), rfl, (by first | rfl | trivial | assumption | omega | (intros; first | rfl | assumption | omega | (exfalso; omega)))⟩) dX11_walker_13
  · refine lv_if_ne (tgt := 14) hx hb dX11_walker_8 (by decide) (fun c3 => ?_) (fun c3 => ?_)
    · refine lv_iload_n hx hb dX11_walker_14 rfl (lv_at hl 2 rfl) ?_
      by_cases w4 : p2.toInt = 0
      · refine lv_lookup (off := 25) (tgt := 40) hx hb dX11_walker_15 (by decide) (by rw [w4]; rfl) (by decide) ?_
        refine lv_aload_n hx hb dX11_walker_40 rfl (lv_at hl 0 rfl) ?_
        refine hw_get hx hb fg_26_10 hK vx rfl dX11_walker_41 ?_
        refine lv_iload_n hx hb dX11_walker_44 rfl (lv_at hl 1 rfl) ?_
        obtain ⟨r5, td_6, fd_7, os_8, v9, R10⟩ := hH.oS (hw_RX_2 Rx)
        refine hw_cR (va_runV (As := [.int p1]) (rest := []) ⟨hx, hb, hml, hown, hts⟩ (k_X9_placeOf l D G (rx 2) p1 _ (hw_RX_2 Rx)) (cwV 1 hts gX11_walker_X9_placeOf rfl rfl rfl (by decide +kernel) ⟨Nat.le_of_ble_eq_true rfl, Nat.le_of_ble_eq_true rfl⟩) (hw_pV (hw_rc (q := (RX9, TX9, 7)) hK v9 rfl) hH hK hST hS (by decide) (fun _ h => Or.inl h) trivial) rfl rfl hl.1 rfl (lv_room (Nat.le_of_ble_eq_true rfl)) dX11_walker_45 ⟨Nat.le_of_ble_eq_true rfl, Nat.le_of_ble_eq_true rfl⟩) (fun v hp => ?_)
        obtain ⟨x11, rfl⟩ := hp
        exact hw_iretR (v := x11) hx hb hr hlocks hQ rfl (⟨x11, rfl, (by first | rfl | trivial | assumption | omega | (intros; first | rfl | assumption | omega | (exfalso; omega)))⟩) dX11_walker_48
      · by_cases w12 : p2.toInt = 1
        · refine lv_lookup (off := 34) (tgt := 49) hx hb dX11_walker_15 (by decide) (by rw [w12]; rfl) (by decide) ?_
          refine lv_aload_n hx hb dX11_walker_49 rfl (lv_at hl 0 rfl) ?_
          refine hw_get hx hb fg_26_10 hK vx rfl dX11_walker_50 ?_
          refine lv_iload_n hx hb dX11_walker_53 rfl (lv_at hl 1 rfl) ?_
          obtain ⟨r13, td_14, fd_15, os_16, v17, R18⟩ := hH.oS (hw_RX_2 Rx)
          refine hw_cR (va_runV (As := [.int p1]) (rest := []) ⟨hx, hb, hml, hown, hts⟩ (k_X9_minuteOf l D G (rx 2) p1 _ (hw_RX_2 Rx)) (cwV 1 hts gX11_walker_X9_minuteOf rfl rfl rfl (by decide +kernel) ⟨Nat.le_of_ble_eq_true rfl, Nat.le_of_ble_eq_true rfl⟩) (hw_pV (hw_rc (q := (RX9, TX9, 7)) hK v17 rfl) hH hK hST hS (by decide) (fun _ h => Or.inl h) trivial) rfl rfl hl.1 rfl (lv_room (Nat.le_of_ble_eq_true rfl)) dX11_walker_54 ⟨Nat.le_of_ble_eq_true rfl, Nat.le_of_ble_eq_true rfl⟩) (fun v hp => ?_)
          obtain ⟨x19, rfl⟩ := hp
          exact hw_iretR (v := x19) hx hb hr hlocks hQ rfl (⟨x19, rfl, (by first | rfl | trivial | assumption | omega | (intros; first | rfl | assumption | omega | (exfalso; omega)))⟩) dX11_walker_57
        · refine lv_lookup (off := 43) (tgt := 58) hx hb dX11_walker_15 (by decide) (by simp [Op.lookupswitch.offset, w4, Ne.symm w4, w12, Ne.symm w12]) (by decide) ?_
          refine lv_bipush (v := (-3)) hx hb dX11_walker_58 (by decide) ?_
          exact hw_iretR (v := (-3)) hx hb hr hlocks hQ rfl (⟨(-3), rfl, (by first | rfl | trivial | assumption | omega | (intros; first | rfl | assumption | omega | (exfalso; omega)))⟩) dX11_walker_60
    · exact absurd c3 (by decide)

set_option maxHeartbeats 4000000 in
set_option maxRecDepth 100000 in
theorem k_X11_goes (l : Launch) (D : hw_D) (G : Nat → Nat) (h0 : Nat) (p1 : Int32) (p2 : Int32) (p3 : Int32) (sz : Nat) (rx : Nat → Nat) (pn_x pc_x ks_x sc_x : Int32) (rc : Nat → Nat) (kc_c lc_c wc_c dk_c : Int32) (G0 : G h0 = 1) (Rx : hw_RX G rx) (gsc_x : 0 ≤ sc_x.toInt ∧ sc_x.toInt ≤ 6) (Rc : hw_RC G rc) (gkc_c : 0 ≤ kc_c.toInt ∧ kc_c.toInt ≤ 7) (glc_c : 0 ≤ lc_c.toInt ∧ lc_c.toInt ≤ 7) (gwc_c : 0 ≤ wc_c.toInt ∧ wc_c.toInt ≤ 3) : Met l yX11_goes wsX11_goes ({ frames := 4, cells := 0, slots := 0, locals := 89 } : Room) (hw_PC D G [.ref h0, .int p1, .int p2, .int p3] sz (fun H => va_at D.1 vwCl (h0, .inr (10, hw_LX rx pn_x pc_x ks_x sc_x)) H ∧ va_at D.1 vwCl ((rx 0), .inr (1, hw_LC rc kc_c lc_c wc_c dk_c)) H)) (hw_QR (fun v => ∃ (r : Int32), v = .int r ∧ (kc_c.toInt = 0 → r.toInt = -2))) 0 0 (fun _ => False) := by
  refine hw_met (cc := cX11_goes) (maxL := 7) (ret := (some .int)) (plainFor_of_name (by decide)) rfl (Nat.le_of_ble_eq_true rfl) ?_
  intro p e s m args below meth c QQ ls hsz hx hb hml hr hts hown hlocks hnm hH hK hST hF hQ hl
  subst hsz
  have hS : va_S (hw_AW G [] s.heap.size) s.heap s.heap [] := va_S.rf
  obtain ⟨vx, vc⟩ := hF
  have hl : lv_has ls 7 [(0, .ref h0), (1, .int p1), (2, .int p2), (3, .int p3)] := hl
  have u_10 : ∀ w ∈ u_ws RX11 TX11 14, w.before args s = true := fun w hw => hts w ((by decide +kernel : ∀ w ∈ u_ws RX11 TX11 14, w ∈ wsX11_goes) w hw)
  have fg_10_10 : hw_FG s args m 10 10 0 := ⟨RX11, "WardWalkers", RX11, TX11, 14, u_10, hown, rfl, by decide, (hts (.fieldLink RX11 10 "WardWalkers" "country" "LWardWalkers$Country;") (by decide +kernel)), (fun _ h9 => h9)⟩
  have fg_26_10 : hw_FG s args m 26 10 2 := ⟨RX11, "WardWalkers", RX11, TX11, 14, u_10, hown, rfl, by decide, (hts (.fieldLink RX11 26 "WardWalkers" "now" "LWardWalkers$Standing;") (by decide +kernel)), (fun _ h9 => h9)⟩
  refine lv_aload_n hx hb dX11_goes_0 rfl (lv_at hl 0 rfl) ?_
  refine hw_get hx hb fg_10_10 hK vx rfl dX11_goes_1 ?_
  refine lv_iload_n hx hb dX11_goes_4 rfl (lv_at hl 1 rfl) ?_
  refine hw_cR (va_runV (As := [.int p1]) (rest := []) ⟨hx, hb, hml, hown, hts⟩ (k_X1_keyAt l D G (rx 0) p1 _ rc kc_c lc_c wc_c dk_c (hw_RX_0 Rx) Rc ⟨by first | decide | omega, by first | decide | omega⟩ ⟨by first | decide | omega, by first | decide | omega⟩ ⟨by first | decide | omega, by first | decide | omega⟩) (cwV 1 hts gX11_goes_X1_keyAt rfl rfl rfl (by decide +kernel) ⟨Nat.le_of_ble_eq_true rfl, Nat.le_of_ble_eq_true rfl⟩) (hw_pV (hw_rc (q := (RX1, TX1, 7)) hK vc rfl) hH hK hST hS (by decide) (fun _ h => Or.inl h) vc) rfl rfl hl.1 rfl (lv_room (Nat.le_of_ble_eq_true rfl)) dX11_goes_5 ⟨Nat.le_of_ble_eq_true rfl, Nat.le_of_ble_eq_true rfl⟩) (fun v hp => ?_)
  rcases hp with rfl | ⟨b1, rfl, k2, q3⟩
  · refine lv_astoreN (lv' := [(4, .null), (0, .ref h0), (1, .int p1), (2, .int p2), (3, .int p3)]) hx hb dX11_goes_8 hl (by decide) rfl (fun ls hl => ?_)
    refine lv_aload_n hx hb dX11_goes_10 rfl (lv_at hl 1 rfl) ?_
    refine hw_get hx hb fg_10_10 hK vx rfl dX11_goes_11 ?_
    refine lv_iload_n hx hb dX11_goes_14 rfl (lv_at hl 3 rfl) ?_
    refine hw_cR (va_runV (As := [.int p2]) (rest := []) ⟨hx, hb, hml, hown, hts⟩ (k_X1_lockAt l D G (rx 0) p2 _ rc kc_c lc_c wc_c dk_c (hw_RX_0 Rx) Rc ⟨by first | decide | omega, by first | decide | omega⟩ ⟨by first | decide | omega, by first | decide | omega⟩ ⟨by first | decide | omega, by first | decide | omega⟩) (cwV 1 hts gX11_goes_X1_lockAt rfl rfl rfl (by decide +kernel) ⟨Nat.le_of_ble_eq_true rfl, Nat.le_of_ble_eq_true rfl⟩) (hw_pV (hw_rc (q := (RX1, TX1, 7)) hK vc rfl) hH hK hST hS (by decide) (fun _ h => Or.inl h) vc) rfl rfl hl.1 rfl (lv_room (Nat.le_of_ble_eq_true rfl)) dX11_goes_15 ⟨Nat.le_of_ble_eq_true rfl, Nat.le_of_ble_eq_true rfl⟩) (fun v hp => ?_)
    rcases hp with rfl | ⟨b4, rfl, k5, q6⟩
    · refine lv_astoreN (lv' := [(5, .null), (4, .null), (0, .ref h0), (1, .int p1), (2, .int p2), (3, .int p3)]) hx hb dX11_goes_18 hl (by decide) rfl (fun ls hl => ?_)
      refine lv_aloadN hx hb dX11_goes_20 (lv_at hl 1 rfl) ?_
      refine lv_ifnullN (tgt := 30) hx hb dX11_goes_22 (by decide) ?_
      refine lv_bipush (v := (-2)) hx hb dX11_goes_30 (by decide) ?_
      exact hw_iretR (v := (-2)) hx hb hr hlocks hQ rfl (⟨(-2), rfl, (by first | rfl | trivial | assumption | omega | (intros; first | rfl | assumption | omega | (exfalso; omega)))⟩) dX11_goes_32
    · refine lv_astore (lv' := [(5, .ref b4), (4, .null), (0, .ref h0), (1, .int p1), (2, .int p2), (3, .int p3)]) hx hb dX11_goes_18 hl (by decide) rfl (fun ls hl => ?_)
      refine lv_aloadN hx hb dX11_goes_20 (lv_at hl 1 rfl) ?_
      refine lv_ifnullN (tgt := 30) hx hb dX11_goes_22 (by decide) ?_
      refine lv_bipush (v := (-2)) hx hb dX11_goes_30 (by decide) ?_
      exact hw_iretR (v := (-2)) hx hb hr hlocks hQ rfl (⟨(-2), rfl, (by first | rfl | trivial | assumption | omega | (intros; first | rfl | assumption | omega | (exfalso; omega)))⟩) dX11_goes_32
  · refine lv_astore (lv' := [(4, .ref b1), (0, .ref h0), (1, .int p1), (2, .int p2), (3, .int p3)]) hx hb dX11_goes_8 hl (by decide) rfl (fun ls hl => ?_)
    refine lv_aload_n hx hb dX11_goes_10 rfl (lv_at hl 1 rfl) ?_
    refine hw_get hx hb fg_10_10 hK vx rfl dX11_goes_11 ?_
    refine lv_iload_n hx hb dX11_goes_14 rfl (lv_at hl 3 rfl) ?_
    refine hw_cR (va_runV (As := [.int p2]) (rest := []) ⟨hx, hb, hml, hown, hts⟩ (k_X1_lockAt l D G (rx 0) p2 _ rc kc_c lc_c wc_c dk_c (hw_RX_0 Rx) Rc ⟨by first | decide | omega, by first | decide | omega⟩ ⟨by first | decide | omega, by first | decide | omega⟩ ⟨by first | decide | omega, by first | decide | omega⟩) (cwV 1 hts gX11_goes_X1_lockAt rfl rfl rfl (by decide +kernel) ⟨Nat.le_of_ble_eq_true rfl, Nat.le_of_ble_eq_true rfl⟩) (hw_pV (hw_rc (q := (RX1, TX1, 7)) hK vc rfl) hH hK hST hS (by decide) (fun _ h => Or.inl h) vc) rfl rfl hl.1 rfl (lv_room (Nat.le_of_ble_eq_true rfl)) dX11_goes_15 ⟨Nat.le_of_ble_eq_true rfl, Nat.le_of_ble_eq_true rfl⟩) (fun v hp => ?_)
    rcases hp with rfl | ⟨b7, rfl, k8, q9⟩
    · refine lv_astoreN (lv' := [(5, .null), (4, .ref b1), (0, .ref h0), (1, .int p1), (2, .int p2), (3, .int p3)]) hx hb dX11_goes_18 hl (by decide) rfl (fun ls hl => ?_)
      refine lv_aload hx hb dX11_goes_20 (lv_at hl 1 rfl) ?_
      refine lv_ifnull hx hb dX11_goes_22 ?_
      refine lv_aloadN hx hb dX11_goes_25 (lv_at hl 0 rfl) ?_
      refine lv_ifnonnullN hx hb dX11_goes_27 ?_
      refine lv_bipush (v := (-2)) hx hb dX11_goes_30 (by decide) ?_
      exact hw_iretR (v := (-2)) hx hb hr hlocks hQ rfl (⟨(-2), rfl, (by first | rfl | trivial | assumption | omega | (intros; first | rfl | assumption | omega | (exfalso; omega)))⟩) dX11_goes_32
    · refine lv_astore (lv' := [(5, .ref b7), (4, .ref b1), (0, .ref h0), (1, .int p1), (2, .int p2), (3, .int p3)]) hx hb dX11_goes_18 hl (by decide) rfl (fun ls hl => ?_)
      refine lv_aload hx hb dX11_goes_20 (lv_at hl 1 rfl) ?_
      refine lv_ifnull hx hb dX11_goes_22 ?_
      refine lv_aload hx hb dX11_goes_25 (lv_at hl 0 rfl) ?_
      refine lv_ifnonnull (tgt := 33) hx hb dX11_goes_27 (by decide) ?_
      refine lv_aload_n hx hb dX11_goes_33 rfl (lv_at hl 2 rfl) ?_
      refine hw_get hx hb fg_26_10 hK vx rfl dX11_goes_34 ?_
      refine lv_iload_n hx hb dX11_goes_37 rfl (lv_at hl 3 rfl) ?_
      obtain ⟨r10, td_11, fd_12, os_13, v14, R15⟩ := hH.oS (hw_RX_2 Rx)
      refine hw_cR (va_runV (As := [.int p1]) (rest := []) ⟨hx, hb, hml, hown, hts⟩ (k_X9_bentOf l D G (rx 2) p1 _ (hw_RX_2 Rx)) (cwV 1 hts gX11_goes_X9_bentOf rfl rfl rfl (by decide +kernel) ⟨Nat.le_of_ble_eq_true rfl, Nat.le_of_ble_eq_true rfl⟩) (hw_pV (hw_rc (q := (RX9, TX9, 7)) hK v14 rfl) hH hK hST hS (by decide) (fun _ h => Or.inl h) trivial) rfl rfl hl.1 rfl (lv_room (Nat.le_of_ble_eq_true rfl)) dX11_goes_38 ⟨Nat.le_of_ble_eq_true rfl, Nat.le_of_ble_eq_true rfl⟩) (fun v hp => ?_)
      obtain ⟨x16, rfl⟩ := hp
      refine lv_istore (lv' := [(6, .int x16), (5, .ref b7), (4, .ref b1), (0, .ref h0), (1, .int p1), (2, .int p2), (3, .int p3)]) hx hb dX11_goes_41 hl (by decide) rfl (fun ls hl => ?_)
      refine lv_iload_n hx hb dX11_goes_43 rfl (lv_at hl 6 rfl) ?_
      by_cases w17 : p3.toInt < 0 ∨ 2 < p3.toInt
      · refine lv_tableOut (tgt := 116) hx hb dX11_goes_44 w17 (by decide) ?_
        refine lv_bipush (v := (-3)) hx hb dX11_goes_116 (by decide) ?_
        exact hw_iretR (v := (-3)) hx hb hr hlocks hQ rfl (⟨(-3), rfl, (by first | rfl | trivial | assumption | omega | (intros; first | rfl | assumption | omega | (exfalso; omega)))⟩) dX11_goes_118
      · rcases (show p3.toInt = 0 ∨ p3.toInt = 1 ∨ p3.toInt = 2 by omega) with w17 | w17 | w17
        · refine lv_tableIn (tgt := 72) (off := 28) hx hb dX11_goes_44 (by omega) (by omega) (by rw [w17]; rfl) (by decide) ?_
          refine lv_aload hx hb dX11_goes_72 (lv_at hl 1 rfl) ?_
          refine lv_aload hx hb dX11_goes_74 (lv_at hl 2 rfl) ?_
          refine lv_iload hx hb dX11_goes_76 (lv_at hl 0 rfl) ?_
          obtain ⟨ci18, cu19, mk20, c22, v21⟩ := hH.oKey k2
          rcases c22 with rfl | rfl | rfl | rfl
          · refine hw_cR (va_runU (As := [.int x16]) (rest := [.ref b7]) ⟨hx, hb, hml, hown, hts⟩ (k_X0_edge l D G b1 x16 _ 0 cu19 mk20 k2 (by first | assumption | decide | omega)) (va_cwA 1 hts gX11_goes_X0_edge_u120X0 rfl rfl rfl (hw_ed_edge hST.ex) (by decide +kernel) ⟨Nat.le_of_ble_eq_true rfl, Nat.le_of_ble_eq_true rfl⟩) (hw_pV (hw_rc (q := (RX0, TX0, 2)) hK v21 rfl) hH hK hST hS (by decide) (fun _ h => Or.inl h) v21) rfl rfl hl.1 rfl (lv_room (Nat.le_of_ble_eq_true rfl)) dX11_goes_78 ⟨Nat.le_of_ble_eq_true rfl, Nat.le_of_ble_eq_true rfl⟩) (fun v hp => ?_)
            obtain ⟨x23, rfl⟩ := hp
            obtain ⟨r24, pl_25, wa_26, py_27, va_28, v29⟩ := hH.oL k8
            refine hw_cR (va_runV (As := [.int x23]) (rest := []) ⟨hx, hb, hml, hown, hts⟩ (k_X4_lackingIn l D G b7 x23 _ k8) (cwV 1 hts gX11_goes_X4_lackingIn rfl rfl rfl (by decide +kernel) ⟨Nat.le_of_ble_eq_true rfl, Nat.le_of_ble_eq_true rfl⟩) (hw_pV (hw_rc (q := (RX4, TX4, 4)) hK v29 rfl) hH hK hST hS (by decide) (fun _ h => Or.inl h) trivial) rfl rfl hl.1 rfl (lv_room (Nat.le_of_ble_eq_true rfl)) dX11_goes_81 ⟨Nat.le_of_ble_eq_true rfl, Nat.le_of_ble_eq_true rfl⟩) (fun v hp => ?_)
            obtain ⟨x31, rfl⟩ := hp
            exact hw_iretR (v := x31) hx hb hr hlocks hQ rfl (⟨x31, rfl, (by first | rfl | trivial | assumption | omega | (intros; first | rfl | assumption | omega | (exfalso; omega)))⟩) dX11_goes_84
          · refine hw_cR (va_runU (As := [.int x16]) (rest := [.ref b7]) ⟨hx, hb, hml, hown, hts⟩ (k_X2_edge l D G b1 x16 _ 2 cu19 mk20 k2 (by first | assumption | decide | omega)) (va_cwA 1 hts gX11_goes_X2_edge_u120X2 rfl rfl rfl (hw_ed_edge hST.ex) (by decide +kernel) ⟨Nat.le_of_ble_eq_true rfl, Nat.le_of_ble_eq_true rfl⟩) (hw_pV (hw_rc (q := (RX2, TX2, 2)) hK v21 rfl) hH hK hST hS (by decide) (fun _ h => Or.inl h) v21) rfl rfl hl.1 rfl (lv_room (Nat.le_of_ble_eq_true rfl)) dX11_goes_78 ⟨Nat.le_of_ble_eq_true rfl, Nat.le_of_ble_eq_true rfl⟩) (fun v hp => ?_)
            obtain ⟨x32, rfl⟩ := hp
            obtain ⟨r33, pl_34, wa_35, py_36, va_37, v38⟩ := hH.oL k8
            refine hw_cR (va_runV (As := [.int x32]) (rest := []) ⟨hx, hb, hml, hown, hts⟩ (k_X4_lackingIn l D G b7 x32 _ k8) (cwV 1 hts gX11_goes_X4_lackingIn rfl rfl rfl (by decide +kernel) ⟨Nat.le_of_ble_eq_true rfl, Nat.le_of_ble_eq_true rfl⟩) (hw_pV (hw_rc (q := (RX4, TX4, 4)) hK v38 rfl) hH hK hST hS (by decide) (fun _ h => Or.inl h) trivial) rfl rfl hl.1 rfl (lv_room (Nat.le_of_ble_eq_true rfl)) dX11_goes_81 ⟨Nat.le_of_ble_eq_true rfl, Nat.le_of_ble_eq_true rfl⟩) (fun v hp => ?_)
            obtain ⟨x40, rfl⟩ := hp
            exact hw_iretR (v := x40) hx hb hr hlocks hQ rfl (⟨x40, rfl, (by first | rfl | trivial | assumption | omega | (intros; first | rfl | assumption | omega | (exfalso; omega)))⟩) dX11_goes_84
          · refine hw_cR (va_runU (As := [.int x16]) (rest := [.ref b7]) ⟨hx, hb, hml, hown, hts⟩ (k_X0_edge l D G b1 x16 _ 4 cu19 mk20 k2 (by first | assumption | decide | omega)) (va_cwA 1 hts gX11_goes_X0_edge_u120X5 rfl rfl rfl (hw_ed_edge hST.ex) (by decide +kernel) ⟨Nat.le_of_ble_eq_true rfl, Nat.le_of_ble_eq_true rfl⟩) (hw_pV (hw_rc (q := (RX5, TX5, 2)) hK v21 rfl) hH hK hST hS (by decide) (fun _ h => Or.inl h) v21) rfl rfl hl.1 rfl (lv_room (Nat.le_of_ble_eq_true rfl)) dX11_goes_78 ⟨Nat.le_of_ble_eq_true rfl, Nat.le_of_ble_eq_true rfl⟩) (fun v hp => ?_)
            obtain ⟨x41, rfl⟩ := hp
            obtain ⟨r42, pl_43, wa_44, py_45, va_46, v47⟩ := hH.oL k8
            refine hw_cR (va_runV (As := [.int x41]) (rest := []) ⟨hx, hb, hml, hown, hts⟩ (k_X4_lackingIn l D G b7 x41 _ k8) (cwV 1 hts gX11_goes_X4_lackingIn rfl rfl rfl (by decide +kernel) ⟨Nat.le_of_ble_eq_true rfl, Nat.le_of_ble_eq_true rfl⟩) (hw_pV (hw_rc (q := (RX4, TX4, 4)) hK v47 rfl) hH hK hST hS (by decide) (fun _ h => Or.inl h) trivial) rfl rfl hl.1 rfl (lv_room (Nat.le_of_ble_eq_true rfl)) dX11_goes_81 ⟨Nat.le_of_ble_eq_true rfl, Nat.le_of_ble_eq_true rfl⟩) (fun v hp => ?_)
            obtain ⟨x49, rfl⟩ := hp
            exact hw_iretR (v := x49) hx hb hr hlocks hQ rfl (⟨x49, rfl, (by first | rfl | trivial | assumption | omega | (intros; first | rfl | assumption | omega | (exfalso; omega)))⟩) dX11_goes_84
          · refine hw_cR (va_runU (As := [.int x16]) (rest := [.ref b7]) ⟨hx, hb, hml, hown, hts⟩ (k_X8_edge l D G b1 x16 _ 7 cu19 mk20 k2 (by first | assumption | decide | omega)) (va_cwA 1 hts gX11_goes_X8_edge_u120X8 rfl rfl rfl (hw_ed_edge hST.ex) (by decide +kernel) ⟨Nat.le_of_ble_eq_true rfl, Nat.le_of_ble_eq_true rfl⟩) (hw_pV (hw_rc (q := (RX8, TX8, 2)) hK v21 rfl) hH hK hST hS (by decide) (fun _ h => Or.inl h) v21) rfl rfl hl.1 rfl (lv_room (Nat.le_of_ble_eq_true rfl)) dX11_goes_78 ⟨Nat.le_of_ble_eq_true rfl, Nat.le_of_ble_eq_true rfl⟩) (fun v hp => ?_)
            obtain ⟨x50, rfl⟩ := hp
            obtain ⟨r51, pl_52, wa_53, py_54, va_55, v56⟩ := hH.oL k8
            refine hw_cR (va_runV (As := [.int x50]) (rest := []) ⟨hx, hb, hml, hown, hts⟩ (k_X4_lackingIn l D G b7 x50 _ k8) (cwV 1 hts gX11_goes_X4_lackingIn rfl rfl rfl (by decide +kernel) ⟨Nat.le_of_ble_eq_true rfl, Nat.le_of_ble_eq_true rfl⟩) (hw_pV (hw_rc (q := (RX4, TX4, 4)) hK v56 rfl) hH hK hST hS (by decide) (fun _ h => Or.inl h) trivial) rfl rfl hl.1 rfl (lv_room (Nat.le_of_ble_eq_true rfl)) dX11_goes_81 ⟨Nat.le_of_ble_eq_true rfl, Nat.le_of_ble_eq_true rfl⟩) (fun v hp => ?_)
            obtain ⟨x58, rfl⟩ := hp
            exact hw_iretR (v := x58) hx hb hr hlocks hQ rfl (⟨x58, rfl, (by first | rfl | trivial | assumption | omega | (intros; first | rfl | assumption | omega | (exfalso; omega)))⟩) dX11_goes_84
        · refine lv_tableIn (tgt := 85) (off := 41) hx hb dX11_goes_44 (by omega) (by omega) (by rw [w17]; rfl) (by decide) ?_
          refine lv_aload hx hb dX11_goes_85 (lv_at hl 1 rfl) ?_
          refine lv_aload hx hb dX11_goes_87 (lv_at hl 2 rfl) ?_
          refine lv_iload hx hb dX11_goes_89 (lv_at hl 0 rfl) ?_
          obtain ⟨ci59, cu60, mk61, c63, v62⟩ := hH.oKey k2
          rcases c63 with rfl | rfl | rfl | rfl
          · refine hw_cR (va_runU (As := [.int x16]) (rest := [.ref b7]) ⟨hx, hb, hml, hown, hts⟩ (k_X0_edge l D G b1 x16 _ 0 cu60 mk61 k2 (by first | assumption | decide | omega)) (va_cwA 1 hts gX11_goes_X0_edge_u120X0 rfl rfl rfl (hw_ed_edge hST.ex) (by decide +kernel) ⟨Nat.le_of_ble_eq_true rfl, Nat.le_of_ble_eq_true rfl⟩) (hw_pV (hw_rc (q := (RX0, TX0, 2)) hK v62 rfl) hH hK hST hS (by decide) (fun _ h => Or.inl h) v62) rfl rfl hl.1 rfl (lv_room (Nat.le_of_ble_eq_true rfl)) dX11_goes_91 ⟨Nat.le_of_ble_eq_true rfl, Nat.le_of_ble_eq_true rfl⟩) (fun v hp => ?_)
            obtain ⟨x64, rfl⟩ := hp
            obtain ⟨r65, pl_66, wa_67, py_68, va_69, v70⟩ := hH.oL k8
            refine hw_cR (va_runV (As := [.int x64]) (rest := []) ⟨hx, hb, hml, hown, hts⟩ (k_X4_overIn l D G b7 x64 _ k8) (cwV 1 hts gX11_goes_X4_overIn rfl rfl rfl (by decide +kernel) ⟨Nat.le_of_ble_eq_true rfl, Nat.le_of_ble_eq_true rfl⟩) (hw_pV (hw_rc (q := (RX4, TX4, 4)) hK v70 rfl) hH hK hST hS (by decide) (fun _ h => Or.inl h) trivial) rfl rfl hl.1 rfl (lv_room (Nat.le_of_ble_eq_true rfl)) dX11_goes_94 ⟨Nat.le_of_ble_eq_true rfl, Nat.le_of_ble_eq_true rfl⟩) (fun v hp => ?_)
            obtain ⟨x72, rfl⟩ := hp
            exact hw_iretR (v := x72) hx hb hr hlocks hQ rfl (⟨x72, rfl, (by first | rfl | trivial | assumption | omega | (intros; first | rfl | assumption | omega | (exfalso; omega)))⟩) dX11_goes_97
          · refine hw_cR (va_runU (As := [.int x16]) (rest := [.ref b7]) ⟨hx, hb, hml, hown, hts⟩ (k_X2_edge l D G b1 x16 _ 2 cu60 mk61 k2 (by first | assumption | decide | omega)) (va_cwA 1 hts gX11_goes_X2_edge_u120X2 rfl rfl rfl (hw_ed_edge hST.ex) (by decide +kernel) ⟨Nat.le_of_ble_eq_true rfl, Nat.le_of_ble_eq_true rfl⟩) (hw_pV (hw_rc (q := (RX2, TX2, 2)) hK v62 rfl) hH hK hST hS (by decide) (fun _ h => Or.inl h) v62) rfl rfl hl.1 rfl (lv_room (Nat.le_of_ble_eq_true rfl)) dX11_goes_91 ⟨Nat.le_of_ble_eq_true rfl, Nat.le_of_ble_eq_true rfl⟩) (fun v hp => ?_)
            obtain ⟨x73, rfl⟩ := hp
            obtain ⟨r74, pl_75, wa_76, py_77, va_78, v79⟩ := hH.oL k8
            refine hw_cR (va_runV (As := [.int x73]) (rest := []) ⟨hx, hb, hml, hown, hts⟩ (k_X4_overIn l D G b7 x73 _ k8) (cwV 1 hts gX11_goes_X4_overIn rfl rfl rfl (by decide +kernel) ⟨Nat.le_of_ble_eq_true rfl, Nat.le_of_ble_eq_true rfl⟩) (hw_pV (hw_rc (q := (RX4, TX4, 4)) hK v79 rfl) hH hK hST hS (by decide) (fun _ h => Or.inl h) trivial) rfl rfl hl.1 rfl (lv_room (Nat.le_of_ble_eq_true rfl)) dX11_goes_94 ⟨Nat.le_of_ble_eq_true rfl, Nat.le_of_ble_eq_true rfl⟩) (fun v hp => ?_)
            obtain ⟨x81, rfl⟩ := hp
            exact hw_iretR (v := x81) hx hb hr hlocks hQ rfl (⟨x81, rfl, (by first | rfl | trivial | assumption | omega | (intros; first | rfl | assumption | omega | (exfalso; omega)))⟩) dX11_goes_97
          · refine hw_cR (va_runU (As := [.int x16]) (rest := [.ref b7]) ⟨hx, hb, hml, hown, hts⟩ (k_X0_edge l D G b1 x16 _ 4 cu60 mk61 k2 (by first | assumption | decide | omega)) (va_cwA 1 hts gX11_goes_X0_edge_u120X5 rfl rfl rfl (hw_ed_edge hST.ex) (by decide +kernel) ⟨Nat.le_of_ble_eq_true rfl, Nat.le_of_ble_eq_true rfl⟩) (hw_pV (hw_rc (q := (RX5, TX5, 2)) hK v62 rfl) hH hK hST hS (by decide) (fun _ h => Or.inl h) v62) rfl rfl hl.1 rfl (lv_room (Nat.le_of_ble_eq_true rfl)) dX11_goes_91 ⟨Nat.le_of_ble_eq_true rfl, Nat.le_of_ble_eq_true rfl⟩) (fun v hp => ?_)
            obtain ⟨x82, rfl⟩ := hp
            obtain ⟨r83, pl_84, wa_85, py_86, va_87, v88⟩ := hH.oL k8
            refine hw_cR (va_runV (As := [.int x82]) (rest := []) ⟨hx, hb, hml, hown, hts⟩ (k_X4_overIn l D G b7 x82 _ k8) (cwV 1 hts gX11_goes_X4_overIn rfl rfl rfl (by decide +kernel) ⟨Nat.le_of_ble_eq_true rfl, Nat.le_of_ble_eq_true rfl⟩) (hw_pV (hw_rc (q := (RX4, TX4, 4)) hK v88 rfl) hH hK hST hS (by decide) (fun _ h => Or.inl h) trivial) rfl rfl hl.1 rfl (lv_room (Nat.le_of_ble_eq_true rfl)) dX11_goes_94 ⟨Nat.le_of_ble_eq_true rfl, Nat.le_of_ble_eq_true rfl⟩) (fun v hp => ?_)
            obtain ⟨x90, rfl⟩ := hp
            exact hw_iretR (v := x90) hx hb hr hlocks hQ rfl (⟨x90, rfl, (by first | rfl | trivial | assumption | omega | (intros; first | rfl | assumption | omega | (exfalso; omega)))⟩) dX11_goes_97
          · refine hw_cR (va_runU (As := [.int x16]) (rest := [.ref b7]) ⟨hx, hb, hml, hown, hts⟩ (k_X8_edge l D G b1 x16 _ 7 cu60 mk61 k2 (by first | assumption | decide | omega)) (va_cwA 1 hts gX11_goes_X8_edge_u120X8 rfl rfl rfl (hw_ed_edge hST.ex) (by decide +kernel) ⟨Nat.le_of_ble_eq_true rfl, Nat.le_of_ble_eq_true rfl⟩) (hw_pV (hw_rc (q := (RX8, TX8, 2)) hK v62 rfl) hH hK hST hS (by decide) (fun _ h => Or.inl h) v62) rfl rfl hl.1 rfl (lv_room (Nat.le_of_ble_eq_true rfl)) dX11_goes_91 ⟨Nat.le_of_ble_eq_true rfl, Nat.le_of_ble_eq_true rfl⟩) (fun v hp => ?_)
            obtain ⟨x91, rfl⟩ := hp
            obtain ⟨r92, pl_93, wa_94, py_95, va_96, v97⟩ := hH.oL k8
            refine hw_cR (va_runV (As := [.int x91]) (rest := []) ⟨hx, hb, hml, hown, hts⟩ (k_X4_overIn l D G b7 x91 _ k8) (cwV 1 hts gX11_goes_X4_overIn rfl rfl rfl (by decide +kernel) ⟨Nat.le_of_ble_eq_true rfl, Nat.le_of_ble_eq_true rfl⟩) (hw_pV (hw_rc (q := (RX4, TX4, 4)) hK v97 rfl) hH hK hST hS (by decide) (fun _ h => Or.inl h) trivial) rfl rfl hl.1 rfl (lv_room (Nat.le_of_ble_eq_true rfl)) dX11_goes_94 ⟨Nat.le_of_ble_eq_true rfl, Nat.le_of_ble_eq_true rfl⟩) (fun v hp => ?_)
            obtain ⟨x99, rfl⟩ := hp
            exact hw_iretR (v := x99) hx hb hr hlocks hQ rfl (⟨x99, rfl, (by first | rfl | trivial | assumption | omega | (intros; first | rfl | assumption | omega | (exfalso; omega)))⟩) dX11_goes_97
        · refine lv_tableIn (tgt := 98) (off := 54) hx hb dX11_goes_44 (by omega) (by omega) (by rw [w17]; rfl) (by decide) ?_
          refine lv_aload hx hb dX11_goes_98 (lv_at hl 1 rfl) ?_
          refine lv_aload hx hb dX11_goes_100 (lv_at hl 2 rfl) ?_
          refine lv_iload hx hb dX11_goes_102 (lv_at hl 0 rfl) ?_
          obtain ⟨r100, pl_101, wa_102, py_103, va_104, v105⟩ := hH.oL k8
          refine hw_cR (va_runV (As := [.ref b1, .int x16]) (rest := []) ⟨hx, hb, hml, hown, hts⟩ (k_X4_letsIn l D G b7 b1 x16 _ k8 k2) (cwV 2 hts gX11_goes_X4_letsIn rfl rfl rfl (by decide +kernel) ⟨Nat.le_of_ble_eq_true rfl, Nat.le_of_ble_eq_true rfl⟩) (hw_pV (hw_rc (q := (RX4, TX4, 4)) hK v105 rfl) hH hK hST hS (by decide) (fun _ h => Or.inl h) trivial) rfl rfl hl.1 rfl (lv_room (Nat.le_of_ble_eq_true rfl)) dX11_goes_104 ⟨Nat.le_of_ble_eq_true rfl, Nat.le_of_ble_eq_true rfl⟩) (fun v hp => ?_)
          rcases hp with rfl | rfl
          · refine lv_if_eq (tgt := 114) hx hb dX11_goes_107 (by decide) (fun c107 => ?_) (fun c107 => ?_)
            · exact absurd c107 (by decide)
            · refine lv_iconst (v := 1) hx hb dX11_goes_110 (by decide) ?_
              refine lv_goto (tgt := 115) hx hb dX11_goes_111 (by decide) ?_
              exact hw_iretR (v := 1) hx hb hr hlocks hQ rfl (⟨1, rfl, (by first | rfl | trivial | assumption | omega | (intros; first | rfl | assumption | omega | (exfalso; omega)))⟩) dX11_goes_115
          · refine lv_if_eq (tgt := 114) hx hb dX11_goes_107 (by decide) (fun c108 => ?_) (fun c108 => ?_)
            · refine lv_iconst (v := 0) hx hb dX11_goes_114 (by decide) ?_
              exact hw_iretR (v := 0) hx hb hr hlocks hQ rfl (⟨0, rfl, (by first | rfl | trivial | assumption | omega | (intros; first | rfl | assumption | omega | (exfalso; omega)))⟩) dX11_goes_115
            · exact absurd c108 (by decide)

set_option maxHeartbeats 4000000 in
set_option maxRecDepth 100000 in
theorem k_X11_as (l : Launch) (D : hw_D) (G : Nat → Nat) (h0 : Nat) (p1 : Int32) (p2 : Int32) (sz : Nat) (rx : Nat → Nat) (pn_x pc_x ks_x sc_x : Int32) (rc : Nat → Nat) (kc_c lc_c wc_c dk_c : Int32) (G0 : G h0 = 1) (Rx : hw_RX G rx) (gsc_x : 0 ≤ sc_x.toInt ∧ sc_x.toInt ≤ 6) (Rc : hw_RC G rc) (gkc_c : 0 ≤ kc_c.toInt ∧ kc_c.toInt ≤ 7) (glc_c : 0 ≤ lc_c.toInt ∧ lc_c.toInt ≤ 7) (gwc_c : 0 ≤ wc_c.toInt ∧ wc_c.toInt ≤ 3) : Met l yX11_as wsX11_as ({ frames := 2, cells := 0, slots := 0, locals := 42 } : Room) (hw_PC D G [.ref h0, .int p1, .int p2] sz (fun H => va_at D.1 vwCl (h0, .inr (10, hw_LX rx pn_x pc_x ks_x sc_x)) H ∧ va_at D.1 vwCl ((rx 0), .inr (1, hw_LC rc kc_c lc_c wc_c dk_c)) H)) (hw_QR (fun v => ∃ (r : Int32), v = .int r ∧ (kc_c.toInt = 0 → r.toInt = -2))) 0 0 (fun _ => False) := by
  refine hw_met (cc := cX11_as) (maxL := 4) (ret := (some .int)) (plainFor_of_name (by decide)) rfl (Nat.le_of_ble_eq_true rfl) ?_
  intro p e s m args below meth c QQ ls hsz hx hb hml hr hts hown hlocks hnm hH hK hST hF hQ hl
  subst hsz
  have hS : va_S (hw_AW G [] s.heap.size) s.heap s.heap [] := va_S.rf
  obtain ⟨vx, vc⟩ := hF
  have hl : lv_has ls 4 [(0, .ref h0), (1, .int p1), (2, .int p2)] := hl
  have u_10 : ∀ w ∈ u_ws RX11 TX11 14, w.before args s = true := fun w hw => hts w ((by decide +kernel : ∀ w ∈ u_ws RX11 TX11 14, w ∈ wsX11_as) w hw)
  have fg_10_10 : hw_FG s args m 10 10 0 := ⟨RX11, "WardWalkers", RX11, TX11, 14, u_10, hown, rfl, by decide, (hts (.fieldLink RX11 10 "WardWalkers" "country" "LWardWalkers$Country;") (by decide +kernel)), (fun _ h9 => h9)⟩
  refine lv_aload_n hx hb dX11_as_0 rfl (lv_at hl 0 rfl) ?_
  refine hw_get hx hb fg_10_10 hK vx rfl dX11_as_1 ?_
  refine lv_iload_n hx hb dX11_as_4 rfl (lv_at hl 1 rfl) ?_
  refine hw_cR (va_runV (As := [.int p1]) (rest := []) ⟨hx, hb, hml, hown, hts⟩ (k_X1_keyAt l D G (rx 0) p1 _ rc kc_c lc_c wc_c dk_c (hw_RX_0 Rx) Rc ⟨by first | decide | omega, by first | decide | omega⟩ ⟨by first | decide | omega, by first | decide | omega⟩ ⟨by first | decide | omega, by first | decide | omega⟩) (cwV 1 hts gX11_as_X1_keyAt rfl rfl rfl (by decide +kernel) ⟨Nat.le_of_ble_eq_true rfl, Nat.le_of_ble_eq_true rfl⟩) (hw_pV (hw_rc (q := (RX1, TX1, 7)) hK vc rfl) hH hK hST hS (by decide) (fun _ h => Or.inl h) vc) rfl rfl hl.1 rfl (lv_room (Nat.le_of_ble_eq_true rfl)) dX11_as_5 ⟨Nat.le_of_ble_eq_true rfl, Nat.le_of_ble_eq_true rfl⟩) (fun v hp => ?_)
  rcases hp with rfl | ⟨b1, rfl, k2, q3⟩
  · refine lv_astore_nN (lv' := [(3, .null), (0, .ref h0), (1, .int p1), (2, .int p2)]) hx hb dX11_as_8 rfl hl (by decide) rfl (fun ls hl => ?_)
    refine lv_aload_nN hx hb dX11_as_9 rfl (lv_at hl 0 rfl) ?_
    refine lv_ifnonnullN hx hb dX11_as_10 ?_
    refine lv_bipush (v := (-2)) hx hb dX11_as_13 (by decide) ?_
    exact hw_iretR (v := (-2)) hx hb hr hlocks hQ rfl (⟨(-2), rfl, (by first | rfl | trivial | assumption | omega | (intros; first | rfl | assumption | omega | (exfalso; omega)))⟩) dX11_as_15
  · refine lv_astore_n (lv' := [(3, .ref b1), (0, .ref h0), (1, .int p1), (2, .int p2)]) hx hb dX11_as_8 rfl hl (by decide) rfl (fun ls hl => ?_)
    refine lv_aload_n hx hb dX11_as_9 rfl (lv_at hl 0 rfl) ?_
    refine lv_ifnonnull (tgt := 16) hx hb dX11_as_10 (by decide) ?_
    refine lv_iload_n hx hb dX11_as_16 rfl (lv_at hl 3 rfl) ?_
    refine lv_if_lt (tgt := 25) hx hb dX11_as_17 (by decide) (fun c4 => ?_) (fun c4 => ?_)
    · have b5 : p2.toInt < 0 := hw_ilt c4
      refine lv_bipush (v := (-3)) hx hb dX11_as_25 (by decide) ?_
      exact hw_iretR (v := (-3)) hx hb hr hlocks hQ rfl (⟨(-3), rfl, (by first | rfl | trivial | assumption | omega | (intros; first | rfl | assumption | omega | (exfalso; omega)))⟩) dX11_as_27
    · have b6 : 0 ≤ p2.toInt := hw_inlt c4
      refine lv_iload_n hx hb dX11_as_20 rfl (lv_at hl 3 rfl) ?_
      refine lv_iconst (v := 4) hx hb dX11_as_21 (by decide) ?_
      refine lv_icmp_le (tgt := 28) hx hb dX11_as_22 (by decide) (fun c7 => ?_) (fun c7 => ?_)
      · have b8 : p2.toInt ≤ 4 := hw_ile c7
        refine lv_aload_n hx hb dX11_as_28 rfl (lv_at hl 0 rfl) ?_
        refine lv_iload_n hx hb dX11_as_29 rfl (lv_at hl 3 rfl) ?_
        refine hw_cR (va_runS (As := [.ref b1, .int p2]) (rest := []) ⟨hx, hb, hml, hown, hts⟩ (k_X11_isOfKind l D G b1 p2 _ k2) (va_cwS 2 hts gX11_as_X11_isOfKind rfl rfl rfl (by decide +kernel) ⟨Nat.le_of_ble_eq_true rfl, Nat.le_of_ble_eq_true rfl⟩) (hw_pS hH hK hST hS (by decide) (fun _ h => Or.inl h) trivial) rfl rfl hl.1 rfl (lv_room (Nat.le_of_ble_eq_true rfl)) dX11_as_30 ⟨Nat.le_of_ble_eq_true rfl, Nat.le_of_ble_eq_true rfl⟩) (fun v hp => ?_)
        rcases hp with rfl | rfl
        · refine lv_if_eq (tgt := 44) hx hb dX11_as_33 (by decide) (fun c9 => ?_) (fun c9 => ?_)
          · exact absurd c9 (by decide)
          · refine lv_aload_n hx hb dX11_as_36 rfl (lv_at hl 0 rfl) ?_
            refine lv_iconst (v := 3) hx hb dX11_as_37 (by decide) ?_
            obtain ⟨ci10, cu11, mk12, c14, v13⟩ := hH.oKey k2
            rcases c14 with rfl | rfl | rfl | rfl
            · refine hw_cR (va_runU (As := [.int 3]) (rest := []) ⟨hx, hb, hml, hown, hts⟩ (k_X0_room l D G b1 3 _ k2) (va_cwA 1 hts gX11_as_X0_room_u170X0 rfl rfl rfl (hw_ed_room hST.ex) (by decide +kernel) ⟨Nat.le_of_ble_eq_true rfl, Nat.le_of_ble_eq_true rfl⟩) (hw_pV (hw_rc (q := (RX0, TX0, 2)) hK v13 rfl) hH hK hST hS (by decide) (fun _ h => Or.inl h) trivial) rfl rfl hl.1 rfl (lv_room (Nat.le_of_ble_eq_true rfl)) dX11_as_38 ⟨Nat.le_of_ble_eq_true rfl, Nat.le_of_ble_eq_true rfl⟩) (fun v hp => ?_)
              obtain ⟨x15, rfl⟩ := hp
              refine lv_goto (tgt := 46) hx hb dX11_as_41 (by decide) ?_
              exact hw_iretR (v := x15) hx hb hr hlocks hQ rfl (⟨x15, rfl, (by first | rfl | trivial | assumption | omega | (intros; first | rfl | assumption | omega | (exfalso; omega)))⟩) dX11_as_46
            · refine hw_cR (va_runU (As := [.int 3]) (rest := []) ⟨hx, hb, hml, hown, hts⟩ (k_X2_room l D G b1 3 _ k2) (va_cwA 1 hts gX11_as_X2_room_u170X2 rfl rfl rfl (hw_ed_room hST.ex) (by decide +kernel) ⟨Nat.le_of_ble_eq_true rfl, Nat.le_of_ble_eq_true rfl⟩) (hw_pV (hw_rc (q := (RX2, TX2, 2)) hK v13 rfl) hH hK hST hS (by decide) (fun _ h => Or.inl h) trivial) rfl rfl hl.1 rfl (lv_room (Nat.le_of_ble_eq_true rfl)) dX11_as_38 ⟨Nat.le_of_ble_eq_true rfl, Nat.le_of_ble_eq_true rfl⟩) (fun v hp => ?_)
              obtain ⟨x16, rfl⟩ := hp
              refine lv_goto (tgt := 46) hx hb dX11_as_41 (by decide) ?_
              exact hw_iretR (v := x16) hx hb hr hlocks hQ rfl (⟨x16, rfl, (by first | rfl | trivial | assumption | omega | (intros; first | rfl | assumption | omega | (exfalso; omega)))⟩) dX11_as_46
            · refine hw_cR (va_runU (As := [.int 3]) (rest := []) ⟨hx, hb, hml, hown, hts⟩ (k_X5_room l D G b1 3 _ k2) (va_cwA 1 hts gX11_as_X5_room_u170X5 rfl rfl rfl (hw_ed_room hST.ex) (by decide +kernel) ⟨Nat.le_of_ble_eq_true rfl, Nat.le_of_ble_eq_true rfl⟩) (hw_pV (hw_rc (q := (RX5, TX5, 2)) hK v13 rfl) hH hK hST hS (by decide) (fun _ h => Or.inl h) trivial) rfl rfl hl.1 rfl (lv_room (Nat.le_of_ble_eq_true rfl)) dX11_as_38 ⟨Nat.le_of_ble_eq_true rfl, Nat.le_of_ble_eq_true rfl⟩) (fun v hp => ?_)
              obtain ⟨x17, rfl⟩ := hp
              refine lv_goto (tgt := 46) hx hb dX11_as_41 (by decide) ?_
              exact hw_iretR (v := x17) hx hb hr hlocks hQ rfl (⟨x17, rfl, (by first | rfl | trivial | assumption | omega | (intros; first | rfl | assumption | omega | (exfalso; omega)))⟩) dX11_as_46
            · refine hw_cR (va_runU (As := [.int 3]) (rest := []) ⟨hx, hb, hml, hown, hts⟩ (k_X8_room l D G b1 3 _ 7 cu11 mk12 k2 (by first | assumption | decide | omega)) (va_cwA 1 hts gX11_as_X8_room_u170X8 rfl rfl rfl (hw_ed_room hST.ex) (by decide +kernel) ⟨Nat.le_of_ble_eq_true rfl, Nat.le_of_ble_eq_true rfl⟩) (hw_pV (hw_rc (q := (RX8, TX8, 2)) hK v13 rfl) hH hK hST hS (by decide) (fun _ h => Or.inl h) v13) rfl rfl hl.1 rfl (lv_room (Nat.le_of_ble_eq_true rfl)) dX11_as_38 ⟨Nat.le_of_ble_eq_true rfl, Nat.le_of_ble_eq_true rfl⟩) (fun v hp => ?_)
              obtain ⟨x18, rfl⟩ := hp
              refine lv_goto (tgt := 46) hx hb dX11_as_41 (by decide) ?_
              exact hw_iretR (v := x18) hx hb hr hlocks hQ rfl (⟨x18, rfl, (by first | rfl | trivial | assumption | omega | (intros; first | rfl | assumption | omega | (exfalso; omega)))⟩) dX11_as_46
        · refine lv_if_eq (tgt := 44) hx hb dX11_as_33 (by decide) (fun c19 => ?_) (fun c19 => ?_)
          · refine lv_bipush (v := (-4)) hx hb dX11_as_44 (by decide) ?_
            exact hw_iretR (v := (-4)) hx hb hr hlocks hQ rfl (⟨(-4), rfl, (by first | rfl | trivial | assumption | omega | (intros; first | rfl | assumption | omega | (exfalso; omega)))⟩) dX11_as_46
          · exact absurd c19 (by decide)
      · have b20 : 4 < p2.toInt := hw_inle c7
        refine lv_bipush (v := (-3)) hx hb dX11_as_25 (by decide) ?_
        exact hw_iretR (v := (-3)) hx hb hr hlocks hQ rfl (⟨(-3), rfl, (by first | rfl | trivial | assumption | omega | (intros; first | rfl | assumption | omega | (exfalso; omega)))⟩) dX11_as_27

set_option maxHeartbeats 4000000 in
set_option maxRecDepth 100000 in
theorem k_X11_tries (l : Launch) (D : hw_D) (G : Nat → Nat) (h0 : Nat) (p1 : Int32) (p2 : Int32) (p3 : Int32) (sz : Nat) (rx : Nat → Nat) (pn_x pc_x ks_x sc_x : Int32) (rc : Nat → Nat) (kc_c lc_c wc_c dk_c : Int32) (G0 : G h0 = 1) (Rx : hw_RX G rx) (gsc_x : 0 ≤ sc_x.toInt ∧ sc_x.toInt ≤ 6) (Rc : hw_RC G rc) (gkc_c : 0 ≤ kc_c.toInt ∧ kc_c.toInt ≤ 7) (glc_c : 0 ≤ lc_c.toInt ∧ lc_c.toInt ≤ 7) (gwc_c : 0 ≤ wc_c.toInt ∧ wc_c.toInt ≤ 3) : Met l yX11_tries wsX11_tries ({ frames := 4, cells := 0, slots := 0, locals := 89 } : Room) (hw_PC D G [.ref h0, .int p1, .int p2, .int p3] sz (fun H => va_at D.1 vwCl (h0, .inr (10, hw_LX rx pn_x pc_x ks_x sc_x)) H ∧ va_at D.1 vwCl ((rx 0), .inr (1, hw_LC rc kc_c lc_c wc_c dk_c)) H)) (hw_QM (fun v H => ∃ (r : Int32) (pn_x2 : Int32) (pc_x2 : Int32), v = some (.int r) ∧ hw_HT D G H ∧ va_at D.1 vwCl (h0, .inr (10, hw_LX rx pn_x2 pc_x2 ks_x sc_x)) H ∧ va_at D.1 vwCl ((rx 0), .inr (1, hw_LC rc kc_c lc_c wc_c dk_c)) H ∧ (kc_c.toInt = 0 → r.toInt = -2)) (hw_AW G [1, 7, 20, 21, 22, 23] sz)) 0 0 (hw_AW G [1, 7, 20, 21, 22, 23] sz) := by
  refine hw_met (cc := cX11_tries) (maxL := 8) (ret := (some .int)) (plainFor_of_name (by decide)) rfl (Nat.le_of_ble_eq_true rfl) ?_
  intro p e s m args below meth c QQ ls hsz hx hb hml hr hts hown hlocks hnm hH hK hST hF hQ hl
  subst hsz
  have hS : va_S (hw_AW G [1, 7, 20, 21, 22, 23] s.heap.size) s.heap s.heap [] := va_S.rf
  obtain ⟨vx, vc⟩ := hF
  have hl : lv_has ls 8 [(0, .ref h0), (1, .int p1), (2, .int p2), (3, .int p3)] := hl
  have u_10 : ∀ w ∈ u_ws RX11 TX11 14, w.before args s = true := fun w hw => hts w ((by decide +kernel : ∀ w ∈ u_ws RX11 TX11 14, w ∈ wsX11_tries) w hw)
  have fg_10_10 : hw_FG s args m 10 10 0 := ⟨RX11, "WardWalkers", RX11, TX11, 14, u_10, hown, rfl, by decide, (hts (.fieldLink RX11 10 "WardWalkers" "country" "LWardWalkers$Country;") (by decide +kernel)), (fun _ h9 => h9)⟩
  have fg_26_10 : hw_FG s args m 26 10 2 := ⟨RX11, "WardWalkers", RX11, TX11, 14, u_10, hown, rfl, by decide, (hts (.fieldLink RX11 26 "WardWalkers" "now" "LWardWalkers$Standing;") (by decide +kernel)), (fun _ h9 => h9)⟩
  have u_3 : ∀ w ∈ u_ws RX4 TX4 4, w.before args s = true := fun w hw => hts w ((by decide +kernel : ∀ w ∈ u_ws RX4 TX4 4, w ∈ wsX11_tries) w hw)
  have fg_131_3 : hw_FG s args m 131 3 0 := ⟨RX11, "WardWalkers$Lock", RX4, TX4, 4, u_3, hown, rfl, by decide, (hts (.fieldLink RX11 131 "WardWalkers$Lock" "place" "I") (by decide +kernel)), (fun _ h9 => h9)⟩
  have u_1 : ∀ w ∈ u_ws RX1 TX1 7, w.before args s = true := fun w hw => hts w ((by decide +kernel : ∀ w ∈ u_ws RX1 TX1 7, w ∈ wsX11_tries) w hw)
  have fg_177_1 : hw_FG s args m 177 1 6 := ⟨RX11, "WardWalkers$Country", RX1, TX1, 7, u_1, hown, rfl, by decide, (hts (.fieldLink RX11 177 "WardWalkers$Country" "dark" "I") (by decide +kernel)), (fun _ h9 => h9)⟩
  have fg_142_3 : hw_FG s args m 142 3 3 := ⟨RX11, "WardWalkers$Lock", RX4, TX4, 4, u_3, hown, rfl, by decide, (hts (.fieldLink RX11 142 "WardWalkers$Lock" "value" "I") (by decide +kernel)), (fun _ h9 => h9)⟩
  refine lv_aload_n hx hb dX11_tries_0 rfl (lv_at hl 0 rfl) ?_
  refine hw_get hx hb fg_10_10 hK vx rfl dX11_tries_1 ?_
  refine lv_iload_n hx hb dX11_tries_4 rfl (lv_at hl 2 rfl) ?_
  refine hw_cR (va_runV (As := [.int p2]) (rest := []) ⟨hx, hb, hml, hown, hts⟩ (k_X1_keyAt l D G (rx 0) p2 _ rc kc_c lc_c wc_c dk_c (hw_RX_0 Rx) Rc ⟨by first | decide | omega, by first | decide | omega⟩ ⟨by first | decide | omega, by first | decide | omega⟩ ⟨by first | decide | omega, by first | decide | omega⟩) (cwV 1 hts gX11_tries_X1_keyAt rfl rfl rfl (by decide +kernel) ⟨Nat.le_of_ble_eq_true rfl, Nat.le_of_ble_eq_true rfl⟩) (hw_pV (hw_rc (q := (RX1, TX1, 7)) hK vc rfl) hH hK hST hS (by decide) (fun _ h => Or.inl h) vc) rfl rfl hl.1 rfl (lv_room (Nat.le_of_ble_eq_true rfl)) dX11_tries_5 ⟨Nat.le_of_ble_eq_true rfl, Nat.le_of_ble_eq_true rfl⟩) (fun v hp => ?_)
  rcases hp with rfl | ⟨b1, rfl, k2, q3⟩
  · refine lv_astoreN (lv' := [(4, .null), (0, .ref h0), (1, .int p1), (2, .int p2), (3, .int p3)]) hx hb dX11_tries_8 hl (by decide) rfl (fun ls hl => ?_)
    refine lv_aload_n hx hb dX11_tries_10 rfl (lv_at hl 1 rfl) ?_
    refine hw_get hx hb fg_10_10 hK vx rfl dX11_tries_11 ?_
    refine lv_iload_n hx hb dX11_tries_14 rfl (lv_at hl 4 rfl) ?_
    refine hw_cR (va_runV (As := [.int p3]) (rest := []) ⟨hx, hb, hml, hown, hts⟩ (k_X1_lockAt l D G (rx 0) p3 _ rc kc_c lc_c wc_c dk_c (hw_RX_0 Rx) Rc ⟨by first | decide | omega, by first | decide | omega⟩ ⟨by first | decide | omega, by first | decide | omega⟩ ⟨by first | decide | omega, by first | decide | omega⟩) (cwV 1 hts gX11_tries_X1_lockAt rfl rfl rfl (by decide +kernel) ⟨Nat.le_of_ble_eq_true rfl, Nat.le_of_ble_eq_true rfl⟩) (hw_pV (hw_rc (q := (RX1, TX1, 7)) hK vc rfl) hH hK hST hS (by decide) (fun _ h => Or.inl h) vc) rfl rfl hl.1 rfl (lv_room (Nat.le_of_ble_eq_true rfl)) dX11_tries_15 ⟨Nat.le_of_ble_eq_true rfl, Nat.le_of_ble_eq_true rfl⟩) (fun v hp => ?_)
    rcases hp with rfl | ⟨b4, rfl, k5, q6⟩
    · refine lv_astoreN (lv' := [(5, .null), (4, .null), (0, .ref h0), (1, .int p1), (2, .int p2), (3, .int p3)]) hx hb dX11_tries_18 hl (by decide) rfl (fun ls hl => ?_)
      refine lv_aloadN hx hb dX11_tries_20 (lv_at hl 1 rfl) ?_
      refine lv_ifnullN (tgt := 41) hx hb dX11_tries_22 (by decide) ?_
      refine lv_bipush (v := (-2)) hx hb dX11_tries_41 (by decide) ?_
      exact hw_iretM (v := (-2)) hx hb hr hlocks hQ hS rfl (⟨(-2), pn_x, pc_x, rfl, hH, vx, vc, (by first | rfl | trivial | assumption | omega | (intros; first | rfl | assumption | omega | (exfalso; omega)))⟩) dX11_tries_43
    · refine lv_astore (lv' := [(5, .ref b4), (4, .null), (0, .ref h0), (1, .int p1), (2, .int p2), (3, .int p3)]) hx hb dX11_tries_18 hl (by decide) rfl (fun ls hl => ?_)
      refine lv_aloadN hx hb dX11_tries_20 (lv_at hl 1 rfl) ?_
      refine lv_ifnullN (tgt := 41) hx hb dX11_tries_22 (by decide) ?_
      refine lv_bipush (v := (-2)) hx hb dX11_tries_41 (by decide) ?_
      exact hw_iretM (v := (-2)) hx hb hr hlocks hQ hS rfl (⟨(-2), pn_x, pc_x, rfl, hH, vx, vc, (by first | rfl | trivial | assumption | omega | (intros; first | rfl | assumption | omega | (exfalso; omega)))⟩) dX11_tries_43
  · refine lv_astore (lv' := [(4, .ref b1), (0, .ref h0), (1, .int p1), (2, .int p2), (3, .int p3)]) hx hb dX11_tries_8 hl (by decide) rfl (fun ls hl => ?_)
    refine lv_aload_n hx hb dX11_tries_10 rfl (lv_at hl 1 rfl) ?_
    refine hw_get hx hb fg_10_10 hK vx rfl dX11_tries_11 ?_
    refine lv_iload_n hx hb dX11_tries_14 rfl (lv_at hl 4 rfl) ?_
    refine hw_cR (va_runV (As := [.int p3]) (rest := []) ⟨hx, hb, hml, hown, hts⟩ (k_X1_lockAt l D G (rx 0) p3 _ rc kc_c lc_c wc_c dk_c (hw_RX_0 Rx) Rc ⟨by first | decide | omega, by first | decide | omega⟩ ⟨by first | decide | omega, by first | decide | omega⟩ ⟨by first | decide | omega, by first | decide | omega⟩) (cwV 1 hts gX11_tries_X1_lockAt rfl rfl rfl (by decide +kernel) ⟨Nat.le_of_ble_eq_true rfl, Nat.le_of_ble_eq_true rfl⟩) (hw_pV (hw_rc (q := (RX1, TX1, 7)) hK vc rfl) hH hK hST hS (by decide) (fun _ h => Or.inl h) vc) rfl rfl hl.1 rfl (lv_room (Nat.le_of_ble_eq_true rfl)) dX11_tries_15 ⟨Nat.le_of_ble_eq_true rfl, Nat.le_of_ble_eq_true rfl⟩) (fun v hp => ?_)
    rcases hp with rfl | ⟨b7, rfl, k8, q9⟩
    · refine lv_astoreN (lv' := [(5, .null), (4, .ref b1), (0, .ref h0), (1, .int p1), (2, .int p2), (3, .int p3)]) hx hb dX11_tries_18 hl (by decide) rfl (fun ls hl => ?_)
      refine lv_aload hx hb dX11_tries_20 (lv_at hl 1 rfl) ?_
      refine lv_ifnull hx hb dX11_tries_22 ?_
      refine lv_aloadN hx hb dX11_tries_25 (lv_at hl 0 rfl) ?_
      refine lv_ifnullN (tgt := 41) hx hb dX11_tries_27 (by decide) ?_
      refine lv_bipush (v := (-2)) hx hb dX11_tries_41 (by decide) ?_
      exact hw_iretM (v := (-2)) hx hb hr hlocks hQ hS rfl (⟨(-2), pn_x, pc_x, rfl, hH, vx, vc, (by first | rfl | trivial | assumption | omega | (intros; first | rfl | assumption | omega | (exfalso; omega)))⟩) dX11_tries_43
    · refine lv_astore (lv' := [(5, .ref b7), (4, .ref b1), (0, .ref h0), (1, .int p1), (2, .int p2), (3, .int p3)]) hx hb dX11_tries_18 hl (by decide) rfl (fun ls hl => ?_)
      refine lv_aload hx hb dX11_tries_20 (lv_at hl 1 rfl) ?_
      refine lv_ifnull hx hb dX11_tries_22 ?_
      refine lv_aload hx hb dX11_tries_25 (lv_at hl 0 rfl) ?_
      refine lv_ifnull hx hb dX11_tries_27 ?_
      refine lv_aload_n hx hb dX11_tries_30 rfl (lv_at hl 2 rfl) ?_
      refine hw_get hx hb fg_10_10 hK vx rfl dX11_tries_31 ?_
      refine lv_iload_n hx hb dX11_tries_34 rfl (lv_at hl 3 rfl) ?_
      refine hw_cR (va_runV (As := [.int p1]) (rest := []) ⟨hx, hb, hml, hown, hts⟩ (k_X1_hasWalker l D G (rx 0) p1 _ rc kc_c lc_c wc_c dk_c (hw_RX_0 Rx) Rc ⟨by first | decide | omega, by first | decide | omega⟩ ⟨by first | decide | omega, by first | decide | omega⟩ ⟨by first | decide | omega, by first | decide | omega⟩) (cwV 1 hts gX11_tries_X1_hasWalker rfl rfl rfl (by decide +kernel) ⟨Nat.le_of_ble_eq_true rfl, Nat.le_of_ble_eq_true rfl⟩) (hw_pV (hw_rc (q := (RX1, TX1, 7)) hK vc rfl) hH hK hST hS (by decide) (fun _ h => Or.inl h) vc) rfl rfl hl.1 rfl (lv_room (Nat.le_of_ble_eq_true rfl)) dX11_tries_35 ⟨Nat.le_of_ble_eq_true rfl, Nat.le_of_ble_eq_true rfl⟩) (fun v hp => ?_)
      rcases hp with rfl | ⟨rfl, q10⟩
      · refine lv_if_ne (tgt := 44) hx hb dX11_tries_38 (by decide) (fun c11 => ?_) (fun c11 => ?_)
        · exact absurd c11 (by decide)
        · refine lv_bipush (v := (-2)) hx hb dX11_tries_41 (by decide) ?_
          exact hw_iretM (v := (-2)) hx hb hr hlocks hQ hS rfl (⟨(-2), pn_x, pc_x, rfl, hH, vx, vc, (by first | rfl | trivial | assumption | omega | (intros; first | rfl | assumption | omega | (exfalso; omega)))⟩) dX11_tries_43
      · refine lv_if_ne (tgt := 44) hx hb dX11_tries_38 (by decide) (fun c12 => ?_) (fun c12 => ?_)
        · refine lv_aload_n hx hb dX11_tries_44 rfl (lv_at hl 2 rfl) ?_
          refine hw_get hx hb fg_26_10 hK vx rfl dX11_tries_45 ?_
          refine lv_iload_n hx hb dX11_tries_48 rfl (lv_at hl 3 rfl) ?_
          obtain ⟨r13, td_14, fd_15, os_16, v17, R18⟩ := hH.oS (hw_RX_2 Rx)
          refine hw_cR (va_runV (As := [.int p1]) (rest := []) ⟨hx, hb, hml, hown, hts⟩ (k_X9_minuteOf l D G (rx 2) p1 _ (hw_RX_2 Rx)) (cwV 1 hts gX11_tries_X9_minuteOf rfl rfl rfl (by decide +kernel) ⟨Nat.le_of_ble_eq_true rfl, Nat.le_of_ble_eq_true rfl⟩) (hw_pV (hw_rc (q := (RX9, TX9, 7)) hK v17 rfl) hH hK hST hS (by decide) (fun _ h => Or.inl h) trivial) rfl rfl hl.1 rfl (lv_room (Nat.le_of_ble_eq_true rfl)) dX11_tries_49 ⟨Nat.le_of_ble_eq_true rfl, Nat.le_of_ble_eq_true rfl⟩) (fun v hp => ?_)
          obtain ⟨x19, rfl⟩ := hp
          refine lv_aload_n hx hb dX11_tries_52 rfl (lv_at hl 2 rfl) ?_
          refine hw_get hx hb fg_26_10 hK vx rfl dX11_tries_53 ?_
          refine lv_iload_n hx hb dX11_tries_56 rfl (lv_at hl 3 rfl) ?_
          refine hw_cR (va_runV (As := [.int p1]) (rest := [.int x19]) ⟨hx, hb, hml, hown, hts⟩ (k_X9_placeOf l D G (rx 2) p1 _ (hw_RX_2 Rx)) (cwV 1 hts gX11_tries_X9_placeOf rfl rfl rfl (by decide +kernel) ⟨Nat.le_of_ble_eq_true rfl, Nat.le_of_ble_eq_true rfl⟩) (hw_pV (hw_rc (q := (RX9, TX9, 7)) hK v17 rfl) hH hK hST hS (by decide) (fun _ h => Or.inl h) trivial) rfl rfl hl.1 rfl (lv_room (Nat.le_of_ble_eq_true rfl)) dX11_tries_57 ⟨Nat.le_of_ble_eq_true rfl, Nat.le_of_ble_eq_true rfl⟩) (fun v hp => ?_)
          obtain ⟨x20, rfl⟩ := hp
          refine lv_aload hx hb dX11_tries_60 (lv_at hl 0 rfl) ?_
          obtain ⟨r21, pl_22, wa_23, py_24, va_25, v26⟩ := hH.oL k8
          refine hw_get hx hb fg_131_3 hK v26 rfl dX11_tries_62 ?_
          refine hw_cR (va_runS (As := [.int x20, .int pl_22]) (rest := [.int x19]) ⟨hx, hb, hml, hown, hts⟩ (k_X11_minutesBetween l D G x20 pl_22 _) (va_cwS 2 hts gX11_tries_X11_minutesBetween rfl rfl rfl (by decide +kernel) ⟨Nat.le_of_ble_eq_true rfl, Nat.le_of_ble_eq_true rfl⟩) (hw_pS hH hK hST hS (by decide) (fun _ h => Or.inl h) trivial) rfl rfl hl.1 rfl (lv_room (Nat.le_of_ble_eq_true rfl)) dX11_tries_65 ⟨Nat.le_of_ble_eq_true rfl, Nat.le_of_ble_eq_true rfl⟩) (fun v hp => ?_)
          obtain ⟨x28, rfl⟩ := hp
          refine lv_iadd hx hb dX11_tries_68 ?_
          refine lv_topi (fun x29 e30 => ?_)
          refine lv_iconst (v := 2) hx hb dX11_tries_69 (by decide) ?_
          refine lv_iadd hx hb dX11_tries_70 ?_
          refine lv_topi (fun x31 e32 => ?_)
          refine lv_istore (lv' := [(6, .int x31), (5, .ref b7), (4, .ref b1), (0, .ref h0), (1, .int p1), (2, .int p2), (3, .int p3)]) hx hb dX11_tries_71 hl (by decide) rfl (fun ls hl => ?_)
          refine lv_aload_n hx hb dX11_tries_73 rfl (lv_at hl 3 rfl) ?_
          refine lv_iload_n hx hb dX11_tries_74 rfl (lv_at hl 5 rfl) ?_
          refine hw_cR (va_runV (As := [.int p2]) (rest := []) ⟨hx, hb, hml, hown, hts⟩ (k_X11_isBroken l D G h0 p2 _ G0) (cwV 1 hts gX11_tries_X11_isBroken rfl rfl rfl (by decide +kernel) ⟨Nat.le_of_ble_eq_true rfl, Nat.le_of_ble_eq_true rfl⟩) (hw_pV (hw_rc (q := (RX11, TX11, 14)) hK vx rfl) hH hK hST hS (by decide) (fun _ h => Or.inl h) trivial) rfl rfl hl.1 rfl (lv_room (Nat.le_of_ble_eq_true rfl)) dX11_tries_75 ⟨Nat.le_of_ble_eq_true rfl, Nat.le_of_ble_eq_true rfl⟩) (fun v hp => ?_)
          rcases hp with rfl | rfl
          · refine lv_if_ne (tgt := 104) hx hb dX11_tries_78 (by decide) (fun c33 => ?_) (fun c33 => ?_)
            · refine lv_bipush (v := (-4)) hx hb dX11_tries_104 (by decide) ?_
              exact hw_iretM (v := (-4)) hx hb hr hlocks hQ hS rfl (⟨(-4), pn_x, pc_x, rfl, hH, vx, vc, (by first | rfl | trivial | assumption | omega | (intros; first | rfl | assumption | omega | (exfalso; omega)))⟩) dX11_tries_106
            · exact absurd c33 (by decide)
          · refine lv_if_ne (tgt := 104) hx hb dX11_tries_78 (by decide) (fun c34 => ?_) (fun c34 => ?_)
            · exact absurd c34 (by decide)
            · refine lv_aload_n hx hb dX11_tries_81 rfl (lv_at hl 3 rfl) ?_
              refine hw_get hx hb fg_26_10 hK vx rfl dX11_tries_82 ?_
              refine lv_iload_n hx hb dX11_tries_85 rfl (lv_at hl 6 rfl) ?_
              refine hw_cR (va_runV (As := [.int p3]) (rest := []) ⟨hx, hb, hml, hown, hts⟩ (k_X9_isOpen l D G (rx 2) p3 _ (hw_RX_2 Rx)) (cwV 1 hts gX11_tries_X9_isOpen rfl rfl rfl (by decide +kernel) ⟨Nat.le_of_ble_eq_true rfl, Nat.le_of_ble_eq_true rfl⟩) (hw_pV (hw_rc (q := (RX9, TX9, 7)) hK v17 rfl) hH hK hST hS (by decide) (fun _ h => Or.inl h) trivial) rfl rfl hl.1 rfl (lv_room (Nat.le_of_ble_eq_true rfl)) dX11_tries_86 ⟨Nat.le_of_ble_eq_true rfl, Nat.le_of_ble_eq_true rfl⟩) (fun v hp => ?_)
              rcases hp with rfl | rfl
              · refine lv_if_ne (tgt := 104) hx hb dX11_tries_89 (by decide) (fun c35 => ?_) (fun c35 => ?_)
                · refine lv_bipush (v := (-4)) hx hb dX11_tries_104 (by decide) ?_
                  exact hw_iretM (v := (-4)) hx hb hr hlocks hQ hS rfl (⟨(-4), pn_x, pc_x, rfl, hH, vx, vc, (by first | rfl | trivial | assumption | omega | (intros; first | rfl | assumption | omega | (exfalso; omega)))⟩) dX11_tries_106
                · exact absurd c35 (by decide)
              · refine lv_if_ne (tgt := 104) hx hb dX11_tries_89 (by decide) (fun c36 => ?_) (fun c36 => ?_)
                · exact absurd c36 (by decide)
                · refine lv_iload hx hb dX11_tries_92 (lv_at hl 0 rfl) ?_
                  refine lv_aload_n hx hb dX11_tries_94 rfl (lv_at hl 3 rfl) ?_
                  refine hw_get hx hb fg_10_10 hK vx rfl dX11_tries_95 ?_
                  refine hw_get hx hb fg_177_1 hK vc rfl dX11_tries_98 ?_
                  refine lv_icmp_le (tgt := 107) hx hb dX11_tries_101 (by decide) (fun c37 => ?_) (fun c37 => ?_)
                  · have b38 : x31.toInt ≤ dk_c.toInt := hw_ile c37
                    refine lv_aload_n hx hb dX11_tries_107 rfl (lv_at hl 3 rfl) ?_
                    refine hw_cM0 (va_runV (As := []) (rest := []) ⟨hx, hb, hml, hown, hts⟩ (k_X11_remember l D G h0 _ rx pn_x pc_x ks_x sc_x r13 td_14 fd_15 os_16 G0 Rx ⟨by first | decide | omega, by first | decide | omega⟩ R18) (cwV 0 hts gX11_tries_X11_remember rfl rfl rfl (by decide +kernel) ⟨Nat.le_of_ble_eq_true rfl, Nat.le_of_ble_eq_true rfl⟩) (hw_pV (hw_rc (q := (RX11, TX11, 14)) hK vx rfl) hH hK hST hS (by decide) (fun _ h => Or.inl h) ⟨vx, v17⟩) rfl rfl hl.1 rfl (lv_room (Nat.le_of_ble_eq_true rfl)) dX11_tries_108 ⟨Nat.le_of_ble_eq_true rfl, Nat.le_of_ble_eq_true rfl⟩) hS (hw_AWsub (by decide) (fun _ _ => rfl) hS.1) (fun v H locs hp hz hk hS => ?_)
                    obtain ⟨x39, x40, x41, x42, rfl, hH, v43, v44⟩ := hp
                    have vc := va_at.kept vc (hk _ (hw_lt vc) (hw_AWn (hw_RX_0 Rx) (by decide) (hw_lt vc)))
                    have v26 := va_at.kept v26 (hk _ (hw_lt v26) (hw_AWn k8 (by decide) (hw_lt v26)))
                    refine lv_aload_n hx hb dX11_tries_111 rfl (lv_at hl 3 rfl) ?_
                    refine hw_get hx hb fg_26_10 hK v43 rfl dX11_tries_112 ?_
                    refine lv_iload_n hx hb dX11_tries_115 rfl (lv_at hl 4 rfl) ?_
                    refine lv_aload hx hb dX11_tries_116 (lv_at hl 1 rfl) ?_
                    refine hw_get hx hb fg_131_3 hK v26 rfl dX11_tries_118 ?_
                    refine lv_iload hx hb dX11_tries_121 (lv_at hl 0 rfl) ?_
                    refine hw_cM0 (va_runV (As := [.int p1, .int pl_22, .int x31]) (rest := []) ⟨hx, hb, hml, hown, hts⟩ (k_X9_stand l D G (rx 2) p1 pl_22 x31 _ (hw_RX_2 Rx)) (cwV 3 hts gX11_tries_X9_stand rfl rfl rfl (by decide +kernel) ⟨Nat.le_of_ble_eq_true rfl, Nat.le_of_ble_eq_true rfl⟩) (hw_pV (hw_rc (q := (RX9, TX9, 7)) hK v44 rfl) hH hK hST hS (by decide) (fun _ h => Or.inl h) trivial) rfl rfl hl.1 rfl (lv_room (Nat.le_of_ble_eq_true rfl)) dX11_tries_123 ⟨Nat.le_of_ble_eq_true rfl, Nat.le_of_ble_eq_true rfl⟩) hS (hw_AWsub (by decide) (fun _ _ => rfl) hS.1) (fun v H locs hp hz hk hS => ?_)
                    obtain ⟨rfl, hH⟩ := hp
                    have v43 := va_at.kept v43 (hk _ (hw_lt v43) (hw_AWn G0 (by decide) (hw_lt v43)))
                    have vc := va_at.kept vc (hk _ (hw_lt vc) (hw_AWn (hw_RX_0 Rx) (by decide) (hw_lt vc)))
                    have v44 := va_at.kept v44 (hk _ (hw_lt v44) (hw_AWn (hw_RX_2 Rx) (by decide) (hw_lt v44)))
                    have v26 := va_at.kept v26 (hk _ (hw_lt v26) (hw_AWn k8 (by decide) (hw_lt v26)))
                    refine lv_aload_n hx hb dX11_tries_126 rfl (lv_at hl 3 rfl) ?_
                    refine hw_get hx hb fg_26_10 hK v43 rfl dX11_tries_127 ?_
                    refine lv_iload_n hx hb dX11_tries_130 rfl (lv_at hl 5 rfl) ?_
                    refine hw_cR (va_runV (As := [.int p2]) (rest := []) ⟨hx, hb, hml, hown, hts⟩ (k_X9_bentOf l D G (rx 2) p2 _ (hw_RX_2 Rx)) (cwV 1 hts gX11_tries_X9_bentOf rfl rfl rfl (by decide +kernel) ⟨Nat.le_of_ble_eq_true rfl, Nat.le_of_ble_eq_true rfl⟩) (hw_pV (hw_rc (q := (RX9, TX9, 7)) hK v44 rfl) hH hK hST hS (by decide) (fun _ h => Or.inl h) trivial) rfl rfl hl.1 rfl (lv_room (Nat.le_of_ble_eq_true rfl)) dX11_tries_131 ⟨Nat.le_of_ble_eq_true rfl, Nat.le_of_ble_eq_true rfl⟩) (fun v hp => ?_)
                    obtain ⟨x45, rfl⟩ := hp
                    refine lv_istore (lv' := [(7, .int x45), (6, .int x31), (5, .ref b7), (4, .ref b1), (0, .ref h0), (1, .int p1), (2, .int p2), (3, .int p3)]) hx hb dX11_tries_134 hl (by decide) rfl (fun ls hl => ?_)
                    refine lv_aload hx hb dX11_tries_136 (lv_at hl 2 rfl) ?_
                    refine lv_aload hx hb dX11_tries_138 (lv_at hl 3 rfl) ?_
                    refine lv_iload hx hb dX11_tries_140 (lv_at hl 0 rfl) ?_
                    refine hw_cR (va_runV (As := [.ref b1, .int x45]) (rest := []) ⟨hx, hb, hml, hown, hts⟩ (k_X4_letsIn l D G b7 b1 x45 _ k8 k2) (cwV 2 hts gX11_tries_X4_letsIn rfl rfl rfl (by decide +kernel) ⟨Nat.le_of_ble_eq_true rfl, Nat.le_of_ble_eq_true rfl⟩) (hw_pV (hw_rc (q := (RX4, TX4, 4)) hK v26 rfl) hH hK hST hS (by decide) (fun _ h => Or.inl h) trivial) rfl rfl hl.1 rfl (lv_room (Nat.le_of_ble_eq_true rfl)) dX11_tries_142 ⟨Nat.le_of_ble_eq_true rfl, Nat.le_of_ble_eq_true rfl⟩) (fun v hp => ?_)
                    rcases hp with rfl | rfl
                    · refine lv_if_eq (tgt := 171) hx hb dX11_tries_145 (by decide) (fun c46 => ?_) (fun c46 => ?_)
                      · exact absurd c46 (by decide)
                      · refine lv_aload_n hx hb dX11_tries_148 rfl (lv_at hl 4 rfl) ?_
                        refine hw_get hx hb fg_26_10 hK v43 rfl dX11_tries_149 ?_
                        refine lv_iload_n hx hb dX11_tries_152 rfl (lv_at hl 6 rfl) ?_
                        refine hw_cM0 (va_runV (As := [.int p2]) (rest := []) ⟨hx, hb, hml, hown, hts⟩ (k_X9_turn l D G (rx 2) p2 _ (hw_RX_2 Rx)) (cwV 1 hts gX11_tries_X9_turn rfl rfl rfl (by decide +kernel) ⟨Nat.le_of_ble_eq_true rfl, Nat.le_of_ble_eq_true rfl⟩) (hw_pV (hw_rc (q := (RX9, TX9, 7)) hK v44 rfl) hH hK hST hS (by decide) (fun _ h => Or.inl h) trivial) rfl rfl hl.1 rfl (lv_room (Nat.le_of_ble_eq_true rfl)) dX11_tries_153 ⟨Nat.le_of_ble_eq_true rfl, Nat.le_of_ble_eq_true rfl⟩) hS (hw_AWsub (by decide) (fun _ _ => rfl) hS.1) (fun v H locs hp hz hk hS => ?_)
                        obtain ⟨rfl, hH⟩ := hp
                        have v43 := va_at.kept v43 (hk _ (hw_lt v43) (hw_AWn G0 (by decide) (hw_lt v43)))
                        have vc := va_at.kept vc (hk _ (hw_lt vc) (hw_AWn (hw_RX_0 Rx) (by decide) (hw_lt vc)))
                        have v44 := va_at.kept v44 (hk _ (hw_lt v44) (hw_AWn (hw_RX_2 Rx) (by decide) (hw_lt v44)))
                        have v26 := va_at.kept v26 (hk _ (hw_lt v26) (hw_AWn k8 (by decide) (hw_lt v26)))
                        refine lv_aload_n hx hb dX11_tries_156 rfl (lv_at hl 4 rfl) ?_
                        refine hw_get hx hb fg_26_10 hK v43 rfl dX11_tries_157 ?_
                        refine lv_iload_n hx hb dX11_tries_160 rfl (lv_at hl 7 rfl) ?_
                        refine lv_aload hx hb dX11_tries_161 (lv_at hl 2 rfl) ?_
                        refine hw_get hx hb fg_142_3 hK v26 rfl dX11_tries_163 ?_
                        refine hw_cM0 (va_runV (As := [.int p3, .int va_25]) (rest := []) ⟨hx, hb, hml, hown, hts⟩ (k_X9_open l D G (rx 2) p3 va_25 _ (hw_RX_2 Rx)) (cwV 2 hts gX11_tries_X9_open rfl rfl rfl (by decide +kernel) ⟨Nat.le_of_ble_eq_true rfl, Nat.le_of_ble_eq_true rfl⟩) (hw_pV (hw_rc (q := (RX9, TX9, 7)) hK v44 rfl) hH hK hST hS (by decide) (fun _ h => Or.inl h) trivial) rfl rfl hl.1 rfl (lv_room (Nat.le_of_ble_eq_true rfl)) dX11_tries_166 ⟨Nat.le_of_ble_eq_true rfl, Nat.le_of_ble_eq_true rfl⟩) hS (hw_AWsub (by decide) (fun _ _ => rfl) hS.1) (fun v H locs hp hz hk hS => ?_)
                        obtain ⟨rfl, hH⟩ := hp
                        have v43 := va_at.kept v43 (hk _ (hw_lt v43) (hw_AWn G0 (by decide) (hw_lt v43)))
                        have vc := va_at.kept vc (hk _ (hw_lt vc) (hw_AWn (hw_RX_0 Rx) (by decide) (hw_lt vc)))
                        have v26 := va_at.kept v26 (hk _ (hw_lt v26) (hw_AWn k8 (by decide) (hw_lt v26)))
                        refine lv_iconst (v := 2) hx hb dX11_tries_169 (by decide) ?_
                        exact hw_iretM (v := 2) hx hb hr hlocks hQ hS rfl (⟨2, x39, x40, rfl, hH, v43, vc, (by first | rfl | trivial | assumption | omega | (intros; first | rfl | assumption | omega | (exfalso; omega)))⟩) dX11_tries_170
                    · refine lv_if_eq (tgt := 171) hx hb dX11_tries_145 (by decide) (fun c47 => ?_) (fun c47 => ?_)
                      · refine lv_aload hx hb dX11_tries_171 (lv_at hl 2 rfl) ?_
                        refine lv_aload hx hb dX11_tries_173 (lv_at hl 3 rfl) ?_
                        refine lv_iload hx hb dX11_tries_175 (lv_at hl 0 rfl) ?_
                        obtain ⟨ci48, cu49, mk50, c52, v51⟩ := hH.oKey k2
                        rcases c52 with rfl | rfl | rfl | rfl
                        · refine hw_cR (va_runU (As := [.int x45]) (rest := [.ref b7]) ⟨hx, hb, hml, hown, hts⟩ (k_X0_edge l D G b1 x45 _ 0 cu49 mk50 k2 (by first | assumption | decide | omega)) (va_cwA 1 hts gX11_tries_X0_edge_u120X0 rfl rfl rfl (hw_ed_edge hST.ex) (by decide +kernel) ⟨Nat.le_of_ble_eq_true rfl, Nat.le_of_ble_eq_true rfl⟩) (hw_pV (hw_rc (q := (RX0, TX0, 2)) hK v51 rfl) hH hK hST hS (by decide) (fun _ h => Or.inl h) v51) rfl rfl hl.1 rfl (lv_room (Nat.le_of_ble_eq_true rfl)) dX11_tries_177 ⟨Nat.le_of_ble_eq_true rfl, Nat.le_of_ble_eq_true rfl⟩) (fun v hp => ?_)
                          obtain ⟨x53, rfl⟩ := hp
                          refine hw_cR (va_runV (As := [.int x53]) (rest := []) ⟨hx, hb, hml, hown, hts⟩ (k_X4_lackingIn l D G b7 x53 _ k8) (cwV 1 hts gX11_tries_X4_lackingIn rfl rfl rfl (by decide +kernel) ⟨Nat.le_of_ble_eq_true rfl, Nat.le_of_ble_eq_true rfl⟩) (hw_pV (hw_rc (q := (RX4, TX4, 4)) hK v26 rfl) hH hK hST hS (by decide) (fun _ h => Or.inl h) trivial) rfl rfl hl.1 rfl (lv_room (Nat.le_of_ble_eq_true rfl)) dX11_tries_180 ⟨Nat.le_of_ble_eq_true rfl, Nat.le_of_ble_eq_true rfl⟩) (fun v hp => ?_)
                          obtain ⟨x54, rfl⟩ := hp
                          refine lv_iconst (v := 1) hx hb dX11_tries_183 (by decide) ?_
                          refine lv_icmp_ne (tgt := 205) hx hb dX11_tries_184 (by decide) (fun c55 => ?_) (fun c55 => ?_)
                          · have b56 : x54.toInt ≠ 1 := hw_ine c55
                            refine lv_iconst (v := 0) hx hb dX11_tries_205 (by decide) ?_
                            exact hw_iretM (v := 0) hx hb hr hlocks hQ hS rfl (⟨0, x39, x40, rfl, hH, v43, vc, (by first | rfl | trivial | assumption | omega | (intros; first | rfl | assumption | omega | (exfalso; omega)))⟩) dX11_tries_206
                          · have b57 : x54.toInt = 1 := hw_ieq c55
                            refine lv_aload hx hb dX11_tries_187 (lv_at hl 3 rfl) ?_
                            refine va_instNo hx hb hown (hts (.classLink RX11 194 "WardWalkers$Master") (by decide +kernel)) (hw_ex_X0_X5 hST.ex) (hw_rc (q := (RX0, TX0, 2)) hK v51 rfl) dX11_tries_189 ?_
                            refine lv_if_ne (tgt := 205) hx hb dX11_tries_192 (by decide) (fun c58 => ?_) (fun c58 => ?_)
                            · exact absurd c58 (by decide)
                            · refine lv_aload_n hx hb dX11_tries_195 rfl (lv_at hl 4 rfl) ?_
                              refine hw_get hx hb fg_26_10 hK v43 rfl dX11_tries_196 ?_
                              refine lv_iload_n hx hb dX11_tries_199 rfl (lv_at hl 6 rfl) ?_
                              refine hw_cM0 (va_runV (As := [.int p2]) (rest := []) ⟨hx, hb, hml, hown, hts⟩ (k_X9_bend l D G (rx 2) p2 _ (hw_RX_2 Rx)) (cwV 1 hts gX11_tries_X9_bend rfl rfl rfl (by decide +kernel) ⟨Nat.le_of_ble_eq_true rfl, Nat.le_of_ble_eq_true rfl⟩) (hw_pV (hw_rc (q := (RX9, TX9, 7)) hK v44 rfl) hH hK hST hS (by decide) (fun _ h => Or.inl h) trivial) rfl rfl hl.1 rfl (lv_room (Nat.le_of_ble_eq_true rfl)) dX11_tries_200 ⟨Nat.le_of_ble_eq_true rfl, Nat.le_of_ble_eq_true rfl⟩) hS (hw_AWsub (by decide) (fun _ _ => rfl) hS.1) (fun v H locs hp hz hk hS => ?_)
                              obtain ⟨rfl, hH⟩ := hp
                              have v43 := va_at.kept v43 (hk _ (hw_lt v43) (hw_AWn G0 (by decide) (hw_lt v43)))
                              have vc := va_at.kept vc (hk _ (hw_lt vc) (hw_AWn (hw_RX_0 Rx) (by decide) (hw_lt vc)))
                              have v44 := va_at.kept v44 (hk _ (hw_lt v44) (hw_AWn (hw_RX_2 Rx) (by decide) (hw_lt v44)))
                              have v26 := va_at.kept v26 (hk _ (hw_lt v26) (hw_AWn k8 (by decide) (hw_lt v26)))
                              have v51 := va_at.kept v51 (hk _ (hw_lt v51) (hw_AWn k2 (by decide) (hw_lt v51)))
                              refine lv_iconst (v := 1) hx hb dX11_tries_203 (by decide) ?_
                              exact hw_iretM (v := 1) hx hb hr hlocks hQ hS rfl (⟨1, x39, x40, rfl, hH, v43, vc, (by first | rfl | trivial | assumption | omega | (intros; first | rfl | assumption | omega | (exfalso; omega)))⟩) dX11_tries_204
                        · refine hw_cR (va_runU (As := [.int x45]) (rest := [.ref b7]) ⟨hx, hb, hml, hown, hts⟩ (k_X2_edge l D G b1 x45 _ 2 cu49 mk50 k2 (by first | assumption | decide | omega)) (va_cwA 1 hts gX11_tries_X2_edge_u120X2 rfl rfl rfl (hw_ed_edge hST.ex) (by decide +kernel) ⟨Nat.le_of_ble_eq_true rfl, Nat.le_of_ble_eq_true rfl⟩) (hw_pV (hw_rc (q := (RX2, TX2, 2)) hK v51 rfl) hH hK hST hS (by decide) (fun _ h => Or.inl h) v51) rfl rfl hl.1 rfl (lv_room (Nat.le_of_ble_eq_true rfl)) dX11_tries_177 ⟨Nat.le_of_ble_eq_true rfl, Nat.le_of_ble_eq_true rfl⟩) (fun v hp => ?_)
                          obtain ⟨x59, rfl⟩ := hp
                          refine hw_cR (va_runV (As := [.int x59]) (rest := []) ⟨hx, hb, hml, hown, hts⟩ (k_X4_lackingIn l D G b7 x59 _ k8) (cwV 1 hts gX11_tries_X4_lackingIn rfl rfl rfl (by decide +kernel) ⟨Nat.le_of_ble_eq_true rfl, Nat.le_of_ble_eq_true rfl⟩) (hw_pV (hw_rc (q := (RX4, TX4, 4)) hK v26 rfl) hH hK hST hS (by decide) (fun _ h => Or.inl h) trivial) rfl rfl hl.1 rfl (lv_room (Nat.le_of_ble_eq_true rfl)) dX11_tries_180 ⟨Nat.le_of_ble_eq_true rfl, Nat.le_of_ble_eq_true rfl⟩) (fun v hp => ?_)
                          obtain ⟨x60, rfl⟩ := hp
                          refine lv_iconst (v := 1) hx hb dX11_tries_183 (by decide) ?_
                          refine lv_icmp_ne (tgt := 205) hx hb dX11_tries_184 (by decide) (fun c61 => ?_) (fun c61 => ?_)
                          · have b62 : x60.toInt ≠ 1 := hw_ine c61
                            refine lv_iconst (v := 0) hx hb dX11_tries_205 (by decide) ?_
                            exact hw_iretM (v := 0) hx hb hr hlocks hQ hS rfl (⟨0, x39, x40, rfl, hH, v43, vc, (by first | rfl | trivial | assumption | omega | (intros; first | rfl | assumption | omega | (exfalso; omega)))⟩) dX11_tries_206
                          · have b63 : x60.toInt = 1 := hw_ieq c61
                            refine lv_aload hx hb dX11_tries_187 (lv_at hl 3 rfl) ?_
                            refine va_instNo hx hb hown (hts (.classLink RX11 194 "WardWalkers$Master") (by decide +kernel)) (hw_ex_X2_X5 hST.ex) (hw_rc (q := (RX2, TX2, 2)) hK v51 rfl) dX11_tries_189 ?_
                            refine lv_if_ne (tgt := 205) hx hb dX11_tries_192 (by decide) (fun c64 => ?_) (fun c64 => ?_)
                            · exact absurd c64 (by decide)
                            · refine lv_aload_n hx hb dX11_tries_195 rfl (lv_at hl 4 rfl) ?_
                              refine hw_get hx hb fg_26_10 hK v43 rfl dX11_tries_196 ?_
                              refine lv_iload_n hx hb dX11_tries_199 rfl (lv_at hl 6 rfl) ?_
                              refine hw_cM0 (va_runV (As := [.int p2]) (rest := []) ⟨hx, hb, hml, hown, hts⟩ (k_X9_bend l D G (rx 2) p2 _ (hw_RX_2 Rx)) (cwV 1 hts gX11_tries_X9_bend rfl rfl rfl (by decide +kernel) ⟨Nat.le_of_ble_eq_true rfl, Nat.le_of_ble_eq_true rfl⟩) (hw_pV (hw_rc (q := (RX9, TX9, 7)) hK v44 rfl) hH hK hST hS (by decide) (fun _ h => Or.inl h) trivial) rfl rfl hl.1 rfl (lv_room (Nat.le_of_ble_eq_true rfl)) dX11_tries_200 ⟨Nat.le_of_ble_eq_true rfl, Nat.le_of_ble_eq_true rfl⟩) hS (hw_AWsub (by decide) (fun _ _ => rfl) hS.1) (fun v H locs hp hz hk hS => ?_)
                              obtain ⟨rfl, hH⟩ := hp
                              have v43 := va_at.kept v43 (hk _ (hw_lt v43) (hw_AWn G0 (by decide) (hw_lt v43)))
                              have vc := va_at.kept vc (hk _ (hw_lt vc) (hw_AWn (hw_RX_0 Rx) (by decide) (hw_lt vc)))
                              have v44 := va_at.kept v44 (hk _ (hw_lt v44) (hw_AWn (hw_RX_2 Rx) (by decide) (hw_lt v44)))
                              have v26 := va_at.kept v26 (hk _ (hw_lt v26) (hw_AWn k8 (by decide) (hw_lt v26)))
                              have v51 := va_at.kept v51 (hk _ (hw_lt v51) (hw_AWn k2 (by decide) (hw_lt v51)))
                              refine lv_iconst (v := 1) hx hb dX11_tries_203 (by decide) ?_
                              exact hw_iretM (v := 1) hx hb hr hlocks hQ hS rfl (⟨1, x39, x40, rfl, hH, v43, vc, (by first | rfl | trivial | assumption | omega | (intros; first | rfl | assumption | omega | (exfalso; omega)))⟩) dX11_tries_204
                        · refine hw_cR (va_runU (As := [.int x45]) (rest := [.ref b7]) ⟨hx, hb, hml, hown, hts⟩ (k_X0_edge l D G b1 x45 _ 4 cu49 mk50 k2 (by first | assumption | decide | omega)) (va_cwA 1 hts gX11_tries_X0_edge_u120X5 rfl rfl rfl (hw_ed_edge hST.ex) (by decide +kernel) ⟨Nat.le_of_ble_eq_true rfl, Nat.le_of_ble_eq_true rfl⟩) (hw_pV (hw_rc (q := (RX5, TX5, 2)) hK v51 rfl) hH hK hST hS (by decide) (fun _ h => Or.inl h) v51) rfl rfl hl.1 rfl (lv_room (Nat.le_of_ble_eq_true rfl)) dX11_tries_177 ⟨Nat.le_of_ble_eq_true rfl, Nat.le_of_ble_eq_true rfl⟩) (fun v hp => ?_)
                          obtain ⟨x65, rfl⟩ := hp
                          refine hw_cR (va_runV (As := [.int x65]) (rest := []) ⟨hx, hb, hml, hown, hts⟩ (k_X4_lackingIn l D G b7 x65 _ k8) (cwV 1 hts gX11_tries_X4_lackingIn rfl rfl rfl (by decide +kernel) ⟨Nat.le_of_ble_eq_true rfl, Nat.le_of_ble_eq_true rfl⟩) (hw_pV (hw_rc (q := (RX4, TX4, 4)) hK v26 rfl) hH hK hST hS (by decide) (fun _ h => Or.inl h) trivial) rfl rfl hl.1 rfl (lv_room (Nat.le_of_ble_eq_true rfl)) dX11_tries_180 ⟨Nat.le_of_ble_eq_true rfl, Nat.le_of_ble_eq_true rfl⟩) (fun v hp => ?_)
                          obtain ⟨x66, rfl⟩ := hp
                          refine lv_iconst (v := 1) hx hb dX11_tries_183 (by decide) ?_
                          refine lv_icmp_ne (tgt := 205) hx hb dX11_tries_184 (by decide) (fun c67 => ?_) (fun c67 => ?_)
                          · have b68 : x66.toInt ≠ 1 := hw_ine c67
                            refine lv_iconst (v := 0) hx hb dX11_tries_205 (by decide) ?_
                            exact hw_iretM (v := 0) hx hb hr hlocks hQ hS rfl (⟨0, x39, x40, rfl, hH, v43, vc, (by first | rfl | trivial | assumption | omega | (intros; first | rfl | assumption | omega | (exfalso; omega)))⟩) dX11_tries_206
                          · have b69 : x66.toInt = 1 := hw_ieq c67
                            refine lv_aload hx hb dX11_tries_187 (lv_at hl 3 rfl) ?_
                            refine va_instE hx hb hown (hts (.classLink RX11 194 "WardWalkers$Master") (by decide +kernel)) (hw_rc (q := (RX5, TX5, 2)) hK v51 rfl) dX11_tries_189 ?_
                            refine lv_if_ne (tgt := 205) hx hb dX11_tries_192 (by decide) (fun c70 => ?_) (fun c70 => ?_)
                            · refine lv_iconst (v := 0) hx hb dX11_tries_205 (by decide) ?_
                              exact hw_iretM (v := 0) hx hb hr hlocks hQ hS rfl (⟨0, x39, x40, rfl, hH, v43, vc, (by first | rfl | trivial | assumption | omega | (intros; first | rfl | assumption | omega | (exfalso; omega)))⟩) dX11_tries_206
                            · exact absurd c70 (by decide)
                        · refine hw_cR (va_runU (As := [.int x45]) (rest := [.ref b7]) ⟨hx, hb, hml, hown, hts⟩ (k_X8_edge l D G b1 x45 _ 7 cu49 mk50 k2 (by first | assumption | decide | omega)) (va_cwA 1 hts gX11_tries_X8_edge_u120X8 rfl rfl rfl (hw_ed_edge hST.ex) (by decide +kernel) ⟨Nat.le_of_ble_eq_true rfl, Nat.le_of_ble_eq_true rfl⟩) (hw_pV (hw_rc (q := (RX8, TX8, 2)) hK v51 rfl) hH hK hST hS (by decide) (fun _ h => Or.inl h) v51) rfl rfl hl.1 rfl (lv_room (Nat.le_of_ble_eq_true rfl)) dX11_tries_177 ⟨Nat.le_of_ble_eq_true rfl, Nat.le_of_ble_eq_true rfl⟩) (fun v hp => ?_)
                          obtain ⟨x71, rfl⟩ := hp
                          refine hw_cR (va_runV (As := [.int x71]) (rest := []) ⟨hx, hb, hml, hown, hts⟩ (k_X4_lackingIn l D G b7 x71 _ k8) (cwV 1 hts gX11_tries_X4_lackingIn rfl rfl rfl (by decide +kernel) ⟨Nat.le_of_ble_eq_true rfl, Nat.le_of_ble_eq_true rfl⟩) (hw_pV (hw_rc (q := (RX4, TX4, 4)) hK v26 rfl) hH hK hST hS (by decide) (fun _ h => Or.inl h) trivial) rfl rfl hl.1 rfl (lv_room (Nat.le_of_ble_eq_true rfl)) dX11_tries_180 ⟨Nat.le_of_ble_eq_true rfl, Nat.le_of_ble_eq_true rfl⟩) (fun v hp => ?_)
                          obtain ⟨x72, rfl⟩ := hp
                          refine lv_iconst (v := 1) hx hb dX11_tries_183 (by decide) ?_
                          refine lv_icmp_ne (tgt := 205) hx hb dX11_tries_184 (by decide) (fun c73 => ?_) (fun c73 => ?_)
                          · have b74 : x72.toInt ≠ 1 := hw_ine c73
                            refine lv_iconst (v := 0) hx hb dX11_tries_205 (by decide) ?_
                            exact hw_iretM (v := 0) hx hb hr hlocks hQ hS rfl (⟨0, x39, x40, rfl, hH, v43, vc, (by first | rfl | trivial | assumption | omega | (intros; first | rfl | assumption | omega | (exfalso; omega)))⟩) dX11_tries_206
                          · have b75 : x72.toInt = 1 := hw_ieq c73
                            refine lv_aload hx hb dX11_tries_187 (lv_at hl 3 rfl) ?_
                            refine va_instNo hx hb hown (hts (.classLink RX11 194 "WardWalkers$Master") (by decide +kernel)) (hw_ex_X8_X5 hST.ex) (hw_rc (q := (RX8, TX8, 2)) hK v51 rfl) dX11_tries_189 ?_
                            refine lv_if_ne (tgt := 205) hx hb dX11_tries_192 (by decide) (fun c76 => ?_) (fun c76 => ?_)
                            · exact absurd c76 (by decide)
                            · refine lv_aload_n hx hb dX11_tries_195 rfl (lv_at hl 4 rfl) ?_
                              refine hw_get hx hb fg_26_10 hK v43 rfl dX11_tries_196 ?_
                              refine lv_iload_n hx hb dX11_tries_199 rfl (lv_at hl 6 rfl) ?_
                              refine hw_cM0 (va_runV (As := [.int p2]) (rest := []) ⟨hx, hb, hml, hown, hts⟩ (k_X9_bend l D G (rx 2) p2 _ (hw_RX_2 Rx)) (cwV 1 hts gX11_tries_X9_bend rfl rfl rfl (by decide +kernel) ⟨Nat.le_of_ble_eq_true rfl, Nat.le_of_ble_eq_true rfl⟩) (hw_pV (hw_rc (q := (RX9, TX9, 7)) hK v44 rfl) hH hK hST hS (by decide) (fun _ h => Or.inl h) trivial) rfl rfl hl.1 rfl (lv_room (Nat.le_of_ble_eq_true rfl)) dX11_tries_200 ⟨Nat.le_of_ble_eq_true rfl, Nat.le_of_ble_eq_true rfl⟩) hS (hw_AWsub (by decide) (fun _ _ => rfl) hS.1) (fun v H locs hp hz hk hS => ?_)
                              obtain ⟨rfl, hH⟩ := hp
                              have v43 := va_at.kept v43 (hk _ (hw_lt v43) (hw_AWn G0 (by decide) (hw_lt v43)))
                              have vc := va_at.kept vc (hk _ (hw_lt vc) (hw_AWn (hw_RX_0 Rx) (by decide) (hw_lt vc)))
                              have v44 := va_at.kept v44 (hk _ (hw_lt v44) (hw_AWn (hw_RX_2 Rx) (by decide) (hw_lt v44)))
                              have v26 := va_at.kept v26 (hk _ (hw_lt v26) (hw_AWn k8 (by decide) (hw_lt v26)))
                              have v51 := va_at.kept v51 (hk _ (hw_lt v51) (hw_AWn k2 (by decide) (hw_lt v51)))
                              refine lv_iconst (v := 1) hx hb dX11_tries_203 (by decide) ?_
                              exact hw_iretM (v := 1) hx hb hr hlocks hQ hS rfl (⟨1, x39, x40, rfl, hH, v43, vc, (by first | rfl | trivial | assumption | omega | (intros; first | rfl | assumption | omega | (exfalso; omega)))⟩) dX11_tries_204
                      · exact absurd c47 (by decide)
                  · have b77 : dk_c.toInt < x31.toInt := hw_inle c37
                    refine lv_bipush (v := (-4)) hx hb dX11_tries_104 (by decide) ?_
                    exact hw_iretM (v := (-4)) hx hb hr hlocks hQ hS rfl (⟨(-4), pn_x, pc_x, rfl, hH, vx, vc, (by first | rfl | trivial | assumption | omega | (intros; first | rfl | assumption | omega | (exfalso; omega)))⟩) dX11_tries_106
        · exact absurd c12 (by decide)

set_option maxHeartbeats 4000000 in
set_option maxRecDepth 100000 in
theorem k_X11_shut (l : Launch) (D : hw_D) (G : Nat → Nat) (h0 : Nat) (p1 : Int32) (sz : Nat) (rx : Nat → Nat) (pn_x pc_x ks_x sc_x : Int32) (rc : Nat → Nat) (kc_c lc_c wc_c dk_c : Int32) (G0 : G h0 = 1) (Rx : hw_RX G rx) (gsc_x : 0 ≤ sc_x.toInt ∧ sc_x.toInt ≤ 6) (Rc : hw_RC G rc) (gkc_c : 0 ≤ kc_c.toInt ∧ kc_c.toInt ≤ 7) (glc_c : 0 ≤ lc_c.toInt ∧ lc_c.toInt ≤ 7) (gwc_c : 0 ≤ wc_c.toInt ∧ wc_c.toInt ≤ 3) : Met l yX11_shut wsX11_shut ({ frames := 3, cells := 0, slots := 0, locals := 63 } : Room) (hw_PC D G [.ref h0, .int p1] sz (fun H => va_at D.1 vwCl (h0, .inr (10, hw_LX rx pn_x pc_x ks_x sc_x)) H ∧ va_at D.1 vwCl ((rx 0), .inr (1, hw_LC rc kc_c lc_c wc_c dk_c)) H)) (hw_QM (fun v H => ∃ (r : Int32) (pn_x2 : Int32) (pc_x2 : Int32), v = some (.int r) ∧ hw_HT D G H ∧ va_at D.1 vwCl (h0, .inr (10, hw_LX rx pn_x2 pc_x2 ks_x sc_x)) H ∧ va_at D.1 vwCl ((rx 0), .inr (1, hw_LC rc kc_c lc_c wc_c dk_c)) H ∧ (lc_c.toInt = 0 → r.toInt = -2)) (hw_AW G [1, 7, 20, 21, 22, 23] sz)) 0 0 (hw_AW G [1, 7, 20, 21, 22, 23] sz) := by
  refine hw_met (cc := cX11_shut) (maxL := 3) (ret := (some .int)) (plainFor_of_name (by decide)) rfl (Nat.le_of_ble_eq_true rfl) ?_
  intro p e s m args below meth c QQ ls hsz hx hb hml hr hts hown hlocks hnm hH hK hST hF hQ hl
  subst hsz
  have hS : va_S (hw_AW G [1, 7, 20, 21, 22, 23] s.heap.size) s.heap s.heap [] := va_S.rf
  obtain ⟨vx, vc⟩ := hF
  have hl : lv_has ls 3 [(0, .ref h0), (1, .int p1)] := hl
  have u_10 : ∀ w ∈ u_ws RX11 TX11 14, w.before args s = true := fun w hw => hts w ((by decide +kernel : ∀ w ∈ u_ws RX11 TX11 14, w ∈ wsX11_shut) w hw)
  have fg_10_10 : hw_FG s args m 10 10 0 := ⟨RX11, "WardWalkers", RX11, TX11, 14, u_10, hown, rfl, by decide, (hts (.fieldLink RX11 10 "WardWalkers" "country" "LWardWalkers$Country;") (by decide +kernel)), (fun _ h9 => h9)⟩
  have fg_26_10 : hw_FG s args m 26 10 2 := ⟨RX11, "WardWalkers", RX11, TX11, 14, u_10, hown, rfl, by decide, (hts (.fieldLink RX11 26 "WardWalkers" "now" "LWardWalkers$Standing;") (by decide +kernel)), (fun _ h9 => h9)⟩
  have u_3 : ∀ w ∈ u_ws RX4 TX4 4, w.before args s = true := fun w hw => hts w ((by decide +kernel : ∀ w ∈ u_ws RX4 TX4 4, w ∈ wsX11_shut) w hw)
  have fg_142_3 : hw_FG s args m 142 3 3 := ⟨RX11, "WardWalkers$Lock", RX4, TX4, 4, u_3, hown, rfl, by decide, (hts (.fieldLink RX11 142 "WardWalkers$Lock" "value" "I") (by decide +kernel)), (fun _ h9 => h9)⟩
  refine lv_aload_n hx hb dX11_shut_0 rfl (lv_at hl 0 rfl) ?_
  refine hw_get hx hb fg_10_10 hK vx rfl dX11_shut_1 ?_
  refine lv_iload_n hx hb dX11_shut_4 rfl (lv_at hl 1 rfl) ?_
  refine hw_cR (va_runV (As := [.int p1]) (rest := []) ⟨hx, hb, hml, hown, hts⟩ (k_X1_lockAt l D G (rx 0) p1 _ rc kc_c lc_c wc_c dk_c (hw_RX_0 Rx) Rc ⟨by first | decide | omega, by first | decide | omega⟩ ⟨by first | decide | omega, by first | decide | omega⟩ ⟨by first | decide | omega, by first | decide | omega⟩) (cwV 1 hts gX11_shut_X1_lockAt rfl rfl rfl (by decide +kernel) ⟨Nat.le_of_ble_eq_true rfl, Nat.le_of_ble_eq_true rfl⟩) (hw_pV (hw_rc (q := (RX1, TX1, 7)) hK vc rfl) hH hK hST hS (by decide) (fun _ h => Or.inl h) vc) rfl rfl hl.1 rfl (lv_room (Nat.le_of_ble_eq_true rfl)) dX11_shut_5 ⟨Nat.le_of_ble_eq_true rfl, Nat.le_of_ble_eq_true rfl⟩) (fun v hp => ?_)
  rcases hp with rfl | ⟨b1, rfl, k2, q3⟩
  · refine lv_astore_nN (lv' := [(2, .null), (0, .ref h0), (1, .int p1)]) hx hb dX11_shut_8 rfl hl (by decide) rfl (fun ls hl => ?_)
    refine lv_aload_nN hx hb dX11_shut_9 rfl (lv_at hl 0 rfl) ?_
    refine lv_ifnonnullN hx hb dX11_shut_10 ?_
    refine lv_bipush (v := (-2)) hx hb dX11_shut_13 (by decide) ?_
    exact hw_iretM (v := (-2)) hx hb hr hlocks hQ hS rfl (⟨(-2), pn_x, pc_x, rfl, hH, vx, vc, (by first | rfl | trivial | assumption | omega | (intros; first | rfl | assumption | omega | (exfalso; omega)))⟩) dX11_shut_15
  · refine lv_astore_n (lv' := [(2, .ref b1), (0, .ref h0), (1, .int p1)]) hx hb dX11_shut_8 rfl hl (by decide) rfl (fun ls hl => ?_)
    refine lv_aload_n hx hb dX11_shut_9 rfl (lv_at hl 0 rfl) ?_
    refine lv_ifnonnull (tgt := 16) hx hb dX11_shut_10 (by decide) ?_
    refine lv_aload_n hx hb dX11_shut_16 rfl (lv_at hl 1 rfl) ?_
    refine hw_get hx hb fg_26_10 hK vx rfl dX11_shut_17 ?_
    refine lv_iload_n hx hb dX11_shut_20 rfl (lv_at hl 2 rfl) ?_
    obtain ⟨r4, td_5, fd_6, os_7, v8, R9⟩ := hH.oS (hw_RX_2 Rx)
    refine hw_cR (va_runV (As := [.int p1]) (rest := []) ⟨hx, hb, hml, hown, hts⟩ (k_X9_isOpen l D G (rx 2) p1 _ (hw_RX_2 Rx)) (cwV 1 hts gX11_shut_X9_isOpen rfl rfl rfl (by decide +kernel) ⟨Nat.le_of_ble_eq_true rfl, Nat.le_of_ble_eq_true rfl⟩) (hw_pV (hw_rc (q := (RX9, TX9, 7)) hK v8 rfl) hH hK hST hS (by decide) (fun _ h => Or.inl h) trivial) rfl rfl hl.1 rfl (lv_room (Nat.le_of_ble_eq_true rfl)) dX11_shut_21 ⟨Nat.le_of_ble_eq_true rfl, Nat.le_of_ble_eq_true rfl⟩) (fun v hp => ?_)
    rcases hp with rfl | rfl
    · refine lv_if_ne (tgt := 30) hx hb dX11_shut_24 (by decide) (fun c10 => ?_) (fun c10 => ?_)
      · refine lv_aload_n hx hb dX11_shut_30 rfl (lv_at hl 1 rfl) ?_
        refine hw_cM0 (va_runV (As := []) (rest := []) ⟨hx, hb, hml, hown, hts⟩ (k_X11_remember l D G h0 _ rx pn_x pc_x ks_x sc_x r4 td_5 fd_6 os_7 G0 Rx ⟨by first | decide | omega, by first | decide | omega⟩ R9) (cwV 0 hts gX11_shut_X11_remember rfl rfl rfl (by decide +kernel) ⟨Nat.le_of_ble_eq_true rfl, Nat.le_of_ble_eq_true rfl⟩) (hw_pV (hw_rc (q := (RX11, TX11, 14)) hK vx rfl) hH hK hST hS (by decide) (fun _ h => Or.inl h) ⟨vx, v8⟩) rfl rfl hl.1 rfl (lv_room (Nat.le_of_ble_eq_true rfl)) dX11_shut_31 ⟨Nat.le_of_ble_eq_true rfl, Nat.le_of_ble_eq_true rfl⟩) hS (hw_AWsub (by decide) (fun _ _ => rfl) hS.1) (fun v H locs hp hz hk hS => ?_)
        obtain ⟨x11, x12, x13, x14, rfl, hH, v15, v16⟩ := hp
        have vc := va_at.kept vc (hk _ (hw_lt vc) (hw_AWn (hw_RX_0 Rx) (by decide) (hw_lt vc)))
        refine lv_aload_n hx hb dX11_shut_34 rfl (lv_at hl 1 rfl) ?_
        refine hw_get hx hb fg_26_10 hK v15 rfl dX11_shut_35 ?_
        refine lv_iload_n hx hb dX11_shut_38 rfl (lv_at hl 2 rfl) ?_
        refine hw_cM0 (va_runV (As := [.int p1]) (rest := []) ⟨hx, hb, hml, hown, hts⟩ (k_X9_close l D G (rx 2) p1 _ (hw_RX_2 Rx)) (cwV 1 hts gX11_shut_X9_close rfl rfl rfl (by decide +kernel) ⟨Nat.le_of_ble_eq_true rfl, Nat.le_of_ble_eq_true rfl⟩) (hw_pV (hw_rc (q := (RX9, TX9, 7)) hK v16 rfl) hH hK hST hS (by decide) (fun _ h => Or.inl h) trivial) rfl rfl hl.1 rfl (lv_room (Nat.le_of_ble_eq_true rfl)) dX11_shut_39 ⟨Nat.le_of_ble_eq_true rfl, Nat.le_of_ble_eq_true rfl⟩) hS (hw_AWsub (by decide) (fun _ _ => rfl) hS.1) (fun v H locs hp hz hk hS => ?_)
        obtain ⟨rfl, hH⟩ := hp
        have v15 := va_at.kept v15 (hk _ (hw_lt v15) (hw_AWn G0 (by decide) (hw_lt v15)))
        have vc := va_at.kept vc (hk _ (hw_lt vc) (hw_AWn (hw_RX_0 Rx) (by decide) (hw_lt vc)))
        refine lv_aload_n hx hb dX11_shut_42 rfl (lv_at hl 0 rfl) ?_
        obtain ⟨r17, pl_18, wa_19, py_20, va_21, v22⟩ := hH.oL k2
        refine hw_get hx hb fg_142_3 hK v22 rfl dX11_shut_43 ?_
        exact hw_iretM (v := va_21) hx hb hr hlocks hQ hS rfl (⟨va_21, x11, x12, rfl, hH, v15, vc, (by first | rfl | trivial | assumption | omega | (intros; first | rfl | assumption | omega | (exfalso; omega)))⟩) dX11_shut_46
      · exact absurd c10 (by decide)
    · refine lv_if_ne (tgt := 30) hx hb dX11_shut_24 (by decide) (fun c24 => ?_) (fun c24 => ?_)
      · exact absurd c24 (by decide)
      · refine lv_bipush (v := (-4)) hx hb dX11_shut_27 (by decide) ?_
        exact hw_iretM (v := (-4)) hx hb hr hlocks hQ hS rfl (⟨(-4), pn_x, pc_x, rfl, hH, vx, vc, (by first | rfl | trivial | assumption | omega | (intros; first | rfl | assumption | omega | (exfalso; omega)))⟩) dX11_shut_29

set_option maxHeartbeats 4000000 in
set_option maxRecDepth 100000 in
theorem k_X11_mend (l : Launch) (D : hw_D) (G : Nat → Nat) (h0 : Nat) (p1 : Int32) (sz : Nat) (rx : Nat → Nat) (pn_x pc_x ks_x sc_x : Int32) (rc : Nat → Nat) (kc_c lc_c wc_c dk_c : Int32) (G0 : G h0 = 1) (Rx : hw_RX G rx) (gsc_x : 0 ≤ sc_x.toInt ∧ sc_x.toInt ≤ 6) (Rc : hw_RC G rc) (gkc_c : 0 ≤ kc_c.toInt ∧ kc_c.toInt ≤ 7) (glc_c : 0 ≤ lc_c.toInt ∧ lc_c.toInt ≤ 7) (gwc_c : 0 ≤ wc_c.toInt ∧ wc_c.toInt ≤ 3) : Met l yX11_mend wsX11_mend ({ frames := 3, cells := 0, slots := 0, locals := 63 } : Room) (hw_PC D G [.ref h0, .int p1] sz (fun H => va_at D.1 vwCl (h0, .inr (10, hw_LX rx pn_x pc_x ks_x sc_x)) H ∧ va_at D.1 vwCl ((rx 0), .inr (1, hw_LC rc kc_c lc_c wc_c dk_c)) H)) (hw_QM (fun v H => ∃ (r : Int32) (pn_x2 : Int32) (pc_x2 : Int32), v = some (.int r) ∧ hw_HT D G H ∧ va_at D.1 vwCl (h0, .inr (10, hw_LX rx pn_x2 pc_x2 ks_x sc_x)) H ∧ va_at D.1 vwCl ((rx 0), .inr (1, hw_LC rc kc_c lc_c wc_c dk_c)) H ∧ (kc_c.toInt = 0 → r.toInt = -2)) (hw_AW G [1, 7, 20, 21, 22, 23] sz)) 0 0 (hw_AW G [1, 7, 20, 21, 22, 23] sz) := by
  refine hw_met (cc := cX11_mend) (maxL := 3) (ret := (some .int)) (plainFor_of_name (by decide)) rfl (Nat.le_of_ble_eq_true rfl) ?_
  intro p e s m args below meth c QQ ls hsz hx hb hml hr hts hown hlocks hnm hH hK hST hF hQ hl
  subst hsz
  have hS : va_S (hw_AW G [1, 7, 20, 21, 22, 23] s.heap.size) s.heap s.heap [] := va_S.rf
  obtain ⟨vx, vc⟩ := hF
  have hl : lv_has ls 3 [(0, .ref h0), (1, .int p1)] := hl
  have u_10 : ∀ w ∈ u_ws RX11 TX11 14, w.before args s = true := fun w hw => hts w ((by decide +kernel : ∀ w ∈ u_ws RX11 TX11 14, w ∈ wsX11_mend) w hw)
  have fg_10_10 : hw_FG s args m 10 10 0 := ⟨RX11, "WardWalkers", RX11, TX11, 14, u_10, hown, rfl, by decide, (hts (.fieldLink RX11 10 "WardWalkers" "country" "LWardWalkers$Country;") (by decide +kernel)), (fun _ h9 => h9)⟩
  have fg_26_10 : hw_FG s args m 26 10 2 := ⟨RX11, "WardWalkers", RX11, TX11, 14, u_10, hown, rfl, by decide, (hts (.fieldLink RX11 26 "WardWalkers" "now" "LWardWalkers$Standing;") (by decide +kernel)), (fun _ h9 => h9)⟩
  refine lv_aload_n hx hb dX11_mend_0 rfl (lv_at hl 0 rfl) ?_
  refine hw_get hx hb fg_10_10 hK vx rfl dX11_mend_1 ?_
  refine lv_iload_n hx hb dX11_mend_4 rfl (lv_at hl 1 rfl) ?_
  refine hw_cR (va_runV (As := [.int p1]) (rest := []) ⟨hx, hb, hml, hown, hts⟩ (k_X1_keyAt l D G (rx 0) p1 _ rc kc_c lc_c wc_c dk_c (hw_RX_0 Rx) Rc ⟨by first | decide | omega, by first | decide | omega⟩ ⟨by first | decide | omega, by first | decide | omega⟩ ⟨by first | decide | omega, by first | decide | omega⟩) (cwV 1 hts gX11_mend_X1_keyAt rfl rfl rfl (by decide +kernel) ⟨Nat.le_of_ble_eq_true rfl, Nat.le_of_ble_eq_true rfl⟩) (hw_pV (hw_rc (q := (RX1, TX1, 7)) hK vc rfl) hH hK hST hS (by decide) (fun _ h => Or.inl h) vc) rfl rfl hl.1 rfl (lv_room (Nat.le_of_ble_eq_true rfl)) dX11_mend_5 ⟨Nat.le_of_ble_eq_true rfl, Nat.le_of_ble_eq_true rfl⟩) (fun v hp => ?_)
  rcases hp with rfl | ⟨b1, rfl, k2, q3⟩
  · refine lv_ifnonnullN hx hb dX11_mend_8 ?_
    refine lv_bipush (v := (-2)) hx hb dX11_mend_11 (by decide) ?_
    exact hw_iretM (v := (-2)) hx hb hr hlocks hQ hS rfl (⟨(-2), pn_x, pc_x, rfl, hH, vx, vc, (by first | rfl | trivial | assumption | omega | (intros; first | rfl | assumption | omega | (exfalso; omega)))⟩) dX11_mend_13
  · refine lv_ifnonnull (tgt := 14) hx hb dX11_mend_8 (by decide) ?_
    refine lv_aload_n hx hb dX11_mend_14 rfl (lv_at hl 0 rfl) ?_
    refine hw_get hx hb fg_26_10 hK vx rfl dX11_mend_15 ?_
    refine lv_iload_n hx hb dX11_mend_18 rfl (lv_at hl 1 rfl) ?_
    obtain ⟨r4, td_5, fd_6, os_7, v8, R9⟩ := hH.oS (hw_RX_2 Rx)
    refine hw_cR (va_runV (As := [.int p1]) (rest := []) ⟨hx, hb, hml, hown, hts⟩ (k_X9_bentOf l D G (rx 2) p1 _ (hw_RX_2 Rx)) (cwV 1 hts gX11_mend_X9_bentOf rfl rfl rfl (by decide +kernel) ⟨Nat.le_of_ble_eq_true rfl, Nat.le_of_ble_eq_true rfl⟩) (hw_pV (hw_rc (q := (RX9, TX9, 7)) hK v8 rfl) hH hK hST hS (by decide) (fun _ h => Or.inl h) trivial) rfl rfl hl.1 rfl (lv_room (Nat.le_of_ble_eq_true rfl)) dX11_mend_19 ⟨Nat.le_of_ble_eq_true rfl, Nat.le_of_ble_eq_true rfl⟩) (fun v hp => ?_)
    obtain ⟨x10, rfl⟩ := hp
    refine lv_aload_n hx hb dX11_mend_22 rfl (lv_at hl 0 rfl) ?_
    refine hw_get hx hb fg_26_10 hK vx rfl dX11_mend_23 ?_
    refine lv_iload_n hx hb dX11_mend_26 rfl (lv_at hl 1 rfl) ?_
    refine hw_cR (va_runV (As := [.int p1]) (rest := [.int x10]) ⟨hx, hb, hml, hown, hts⟩ (k_X9_turnedOf l D G (rx 2) p1 _ (hw_RX_2 Rx)) (cwV 1 hts gX11_mend_X9_turnedOf rfl rfl rfl (by decide +kernel) ⟨Nat.le_of_ble_eq_true rfl, Nat.le_of_ble_eq_true rfl⟩) (hw_pV (hw_rc (q := (RX9, TX9, 7)) hK v8 rfl) hH hK hST hS (by decide) (fun _ h => Or.inl h) trivial) rfl rfl hl.1 rfl (lv_room (Nat.le_of_ble_eq_true rfl)) dX11_mend_27 ⟨Nat.le_of_ble_eq_true rfl, Nat.le_of_ble_eq_true rfl⟩) (fun v hp => ?_)
    obtain ⟨x11, rfl⟩ := hp
    refine lv_iadd hx hb dX11_mend_30 ?_
    refine lv_topi (fun x12 e13 => ?_)
    refine lv_istore_n (lv' := [(2, .int x12), (0, .ref h0), (1, .int p1)]) hx hb dX11_mend_31 rfl hl (by decide) rfl (fun ls hl => ?_)
    refine lv_iload_n hx hb dX11_mend_32 rfl (lv_at hl 0 rfl) ?_
    refine lv_if_ne (tgt := 39) hx hb dX11_mend_33 (by decide) (fun c14 => ?_) (fun c14 => ?_)
    · have b15 : x12.toInt ≠ 0 := hw_ine c14
      refine lv_aload_n hx hb dX11_mend_39 rfl (lv_at hl 1 rfl) ?_
      refine hw_cM0 (va_runV (As := []) (rest := []) ⟨hx, hb, hml, hown, hts⟩ (k_X11_remember l D G h0 _ rx pn_x pc_x ks_x sc_x r4 td_5 fd_6 os_7 G0 Rx ⟨by first | decide | omega, by first | decide | omega⟩ R9) (cwV 0 hts gX11_mend_X11_remember rfl rfl rfl (by decide +kernel) ⟨Nat.le_of_ble_eq_true rfl, Nat.le_of_ble_eq_true rfl⟩) (hw_pV (hw_rc (q := (RX11, TX11, 14)) hK vx rfl) hH hK hST hS (by decide) (fun _ h => Or.inl h) ⟨vx, v8⟩) rfl rfl hl.1 rfl (lv_room (Nat.le_of_ble_eq_true rfl)) dX11_mend_40 ⟨Nat.le_of_ble_eq_true rfl, Nat.le_of_ble_eq_true rfl⟩) hS (hw_AWsub (by decide) (fun _ _ => rfl) hS.1) (fun v H locs hp hz hk hS => ?_)
      obtain ⟨x16, x17, x18, x19, rfl, hH, v20, v21⟩ := hp
      have vc := va_at.kept vc (hk _ (hw_lt vc) (hw_AWn (hw_RX_0 Rx) (by decide) (hw_lt vc)))
      refine lv_aload_n hx hb dX11_mend_43 rfl (lv_at hl 1 rfl) ?_
      refine hw_get hx hb fg_26_10 hK v20 rfl dX11_mend_44 ?_
      refine lv_iload_n hx hb dX11_mend_47 rfl (lv_at hl 2 rfl) ?_
      refine hw_cM0 (va_runV (As := [.int p1]) (rest := []) ⟨hx, hb, hml, hown, hts⟩ (k_X9_restore l D G (rx 2) p1 _ (hw_RX_2 Rx)) (cwV 1 hts gX11_mend_X9_restore rfl rfl rfl (by decide +kernel) ⟨Nat.le_of_ble_eq_true rfl, Nat.le_of_ble_eq_true rfl⟩) (hw_pV (hw_rc (q := (RX9, TX9, 7)) hK v21 rfl) hH hK hST hS (by decide) (fun _ h => Or.inl h) trivial) rfl rfl hl.1 rfl (lv_room (Nat.le_of_ble_eq_true rfl)) dX11_mend_48 ⟨Nat.le_of_ble_eq_true rfl, Nat.le_of_ble_eq_true rfl⟩) hS (hw_AWsub (by decide) (fun _ _ => rfl) hS.1) (fun v H locs hp hz hk hS => ?_)
      obtain ⟨rfl, hH⟩ := hp
      have v20 := va_at.kept v20 (hk _ (hw_lt v20) (hw_AWn G0 (by decide) (hw_lt v20)))
      have vc := va_at.kept vc (hk _ (hw_lt vc) (hw_AWn (hw_RX_0 Rx) (by decide) (hw_lt vc)))
      have v21 := va_at.kept v21 (hk _ (hw_lt v21) (hw_AWn (hw_RX_2 Rx) (by decide) (hw_lt v21)))
      refine lv_iload_n hx hb dX11_mend_51 rfl (lv_at hl 0 rfl) ?_
      exact hw_iretM (v := x12) hx hb hr hlocks hQ hS rfl (⟨x12, x16, x17, rfl, hH, v20, vc, (by first | rfl | trivial | assumption | omega | (intros; first | rfl | assumption | omega | (exfalso; omega)))⟩) dX11_mend_52
    · have b22 : x12.toInt = 0 := hw_ieq c14
      refine lv_bipush (v := (-4)) hx hb dX11_mend_36 (by decide) ?_
      exact hw_iretM (v := (-4)) hx hb hr hlocks hQ hS rfl (⟨(-4), pn_x, pc_x, rfl, hH, vx, vc, (by first | rfl | trivial | assumption | omega | (intros; first | rfl | assumption | omega | (exfalso; omega)))⟩) dX11_mend_38

set_option maxHeartbeats 4000000 in
set_option maxRecDepth 100000 in
theorem k_X11_day (l : Launch) (D : hw_D) (G : Nat → Nat) (h0 : Nat) (sz : Nat) (rx : Nat → Nat) (pn_x pc_x ks_x sc_x : Int32) (rn : Nat → Nat) (td_n fd_n os_n : Int32) (G0 : G h0 = 1) (Rx : hw_RX G rx) (gsc_x : 0 ≤ sc_x.toInt ∧ sc_x.toInt ≤ 6) (Rn : hw_RS G rn) : Met l yX11_day wsX11_day ({ frames := 3, cells := 0, slots := 0, locals := 63 } : Room) (hw_PC D G [.ref h0] sz (fun H => va_at D.1 vwCl (h0, .inr (10, hw_LX rx pn_x pc_x ks_x sc_x)) H ∧ va_at D.1 vwCl ((rx 2), .inr (8, hw_LS rn td_n fd_n os_n)) H)) (hw_QM (fun v H => ∃ (r : Int32) (pn_x2 : Int32) (pc_x2 : Int32) (td_n2 : Int32) (fd_n2 : Int32) (os_n2 : Int32), v = some (.int r) ∧ hw_HT D G H ∧ va_at D.1 vwCl (h0, .inr (10, hw_LX rx pn_x2 pc_x2 ks_x sc_x)) H ∧ va_at D.1 vwCl ((rx 2), .inr (8, hw_LS rn td_n2 fd_n2 os_n2)) H ∧ (td_n.toInt = 0 → r.toInt = 1)) (hw_AW G [1, 7, 20, 21, 22, 23] sz)) 0 0 (hw_AW G [1, 7, 20, 21, 22, 23] sz) := by
  refine hw_met (cc := cX11_day) (maxL := 1) (ret := (some .int)) (plainFor_of_name (by decide)) rfl (Nat.le_of_ble_eq_true rfl) ?_
  intro p e s m args below meth c QQ ls hsz hx hb hml hr hts hown hlocks hnm hH hK hST hF hQ hl
  subst hsz
  have hS : va_S (hw_AW G [1, 7, 20, 21, 22, 23] s.heap.size) s.heap s.heap [] := va_S.rf
  obtain ⟨vx, vn⟩ := hF
  have hl : lv_has ls 1 [(0, .ref h0)] := hl
  have u_10 : ∀ w ∈ u_ws RX11 TX11 14, w.before args s = true := fun w hw => hts w ((by decide +kernel : ∀ w ∈ u_ws RX11 TX11 14, w ∈ wsX11_day) w hw)
  have fg_26_10 : hw_FG s args m 26 10 2 := ⟨RX11, "WardWalkers", RX11, TX11, 14, u_10, hown, rfl, by decide, (hts (.fieldLink RX11 26 "WardWalkers" "now" "LWardWalkers$Standing;") (by decide +kernel)), (fun _ h9 => h9)⟩
  have u_8 : ∀ w ∈ u_ws RX9 TX9 7, w.before args s = true := fun w hw => hts w ((by decide +kernel : ∀ w ∈ u_ws RX9 TX9 7, w ∈ wsX11_day) w hw)
  have fg_205_8 : hw_FG s args m 205 8 0 := ⟨RX11, "WardWalkers$Standing", RX9, TX9, 7, u_8, hown, rfl, by decide, (hts (.fieldLink RX11 205 "WardWalkers$Standing" "today" "I") (by decide +kernel)), (fun _ h9 => h9)⟩
  refine lv_aload_n hx hb dX11_day_0 rfl (lv_at hl 0 rfl) ?_
  refine hw_get hx hb fg_26_10 hK vx rfl dX11_day_1 ?_
  refine hw_get hx hb fg_205_8 hK vn rfl dX11_day_4 ?_
  refine lv_sipush (v := 999) hx hb dX11_day_7 (by decide) ?_
  refine lv_icmp_lt (tgt := 16) hx hb dX11_day_10 (by decide) (fun c1 => ?_) (fun c1 => ?_)
  · have b2 : td_n.toInt < 999 := hw_ilt c1
    refine lv_aload_n hx hb dX11_day_16 rfl (lv_at hl 0 rfl) ?_
    refine hw_cM0 (va_runV (As := []) (rest := []) ⟨hx, hb, hml, hown, hts⟩ (k_X11_remember l D G h0 _ rx pn_x pc_x ks_x sc_x rn td_n fd_n os_n G0 Rx ⟨by first | decide | omega, by first | decide | omega⟩ Rn) (cwV 0 hts gX11_day_X11_remember rfl rfl rfl (by decide +kernel) ⟨Nat.le_of_ble_eq_true rfl, Nat.le_of_ble_eq_true rfl⟩) (hw_pV (hw_rc (q := (RX11, TX11, 14)) hK vx rfl) hH hK hST hS (by decide) (fun _ h => Or.inl h) ⟨vx, vn⟩) rfl rfl hl.1 rfl (lv_room (Nat.le_of_ble_eq_true rfl)) dX11_day_17 ⟨Nat.le_of_ble_eq_true rfl, Nat.le_of_ble_eq_true rfl⟩) hS (hw_AWsub (by decide) (fun _ _ => rfl) hS.1) (fun v H locs hp hz hk hS => ?_)
    obtain ⟨x3, x4, x5, x6, rfl, hH, v7, v8⟩ := hp
    refine lv_aload_n hx hb dX11_day_20 rfl (lv_at hl 0 rfl) ?_
    refine hw_get hx hb fg_26_10 hK v7 rfl dX11_day_21 ?_
    refine hw_cM0 (va_runV (As := []) (rest := []) ⟨hx, hb, hml, hown, hts⟩ (k_X9_nextDay l D G (rx 2) _ rn td_n x5 x6 (hw_RX_2 Rx) Rn) (cwV 0 hts gX11_day_X9_nextDay rfl rfl rfl (by decide +kernel) ⟨Nat.le_of_ble_eq_true rfl, Nat.le_of_ble_eq_true rfl⟩) (hw_pV (hw_rc (q := (RX9, TX9, 7)) hK v8 rfl) hH hK hST hS (by decide) (fun _ h => Or.inl h) v8) rfl rfl hl.1 rfl (lv_room (Nat.le_of_ble_eq_true rfl)) dX11_day_24 ⟨Nat.le_of_ble_eq_true rfl, Nat.le_of_ble_eq_true rfl⟩) hS (hw_AWsub (by decide) (fun _ _ => rfl) hS.1) (fun v H locs hp hz hk hS => ?_)
    obtain ⟨x9, rfl, hH, v10, q11⟩ := hp
    have v7 := va_at.kept v7 (hk _ (hw_lt v7) (hw_AWn G0 (by decide) (hw_lt v7)))
    refine lv_aload_n hx hb dX11_day_27 rfl (lv_at hl 0 rfl) ?_
    refine hw_get hx hb fg_26_10 hK v7 rfl dX11_day_28 ?_
    refine hw_get hx hb fg_205_8 hK v10 rfl dX11_day_31 ?_
    exact hw_iretM (v := x9) hx hb hr hlocks hQ hS rfl (⟨x9, x3, x4, x9, x5, x6, rfl, hH, v7, v10, (by first | rfl | trivial | assumption | omega | (intros; first | rfl | assumption | omega | (exfalso; omega)))⟩) dX11_day_34
  · have b12 : 999 ≤ td_n.toInt := hw_inlt c1
    refine lv_bipush (v := (-5)) hx hb dX11_day_13 (by decide) ?_
    exact hw_iretM (v := (-5)) hx hb hr hlocks hQ hS rfl (⟨(-5), pn_x, pc_x, td_n, fd_n, os_n, rfl, hH, vx, vn, (by first | rfl | trivial | assumption | omega | (intros; first | rfl | assumption | omega | (exfalso; omega)))⟩) dX11_day_15

set_option maxHeartbeats 4000000 in
set_option maxRecDepth 100000 in
theorem k_X11_undo (l : Launch) (D : hw_D) (G : Nat → Nat) (h0 : Nat) (sz : Nat) (rx : Nat → Nat) (pn_x pc_x ks_x sc_x : Int32) (G0 : G h0 = 1) (Rx : hw_RX G rx) (gsc_x : 0 ≤ sc_x.toInt ∧ sc_x.toInt ≤ 6) : Met l yX11_undo wsX11_undo ({ frames := 2, cells := 0, slots := 0, locals := 43 } : Room) (hw_PC D G [.ref h0] sz (fun H => va_at D.1 vwCl (h0, .inr (10, hw_LX rx pn_x pc_x ks_x sc_x)) H)) (hw_QM (fun v H => ∃ (r : Int32) (pn_x2 : Int32) (pc_x2 : Int32), v = some (.int r) ∧ hw_HT D G H ∧ va_at D.1 vwCl (h0, .inr (10, hw_LX rx pn_x2 pc_x2 ks_x sc_x)) H ∧ (pc_x.toInt = 0 → r.toInt = -4)) (hw_AW G [1, 7, 20, 21, 22, 23] sz)) 0 0 (hw_AW G [1, 7, 20, 21, 22, 23] sz) := by
  refine hw_met (cc := cX11_undo) (maxL := 1) (ret := (some .int)) (plainFor_of_name (by decide)) rfl (Nat.le_of_ble_eq_true rfl) ?_
  intro p e s m args below meth c QQ ls hsz hx hb hml hr hts hown hlocks hnm hH hK hST hF hQ hl
  subst hsz
  have hS : va_S (hw_AW G [1, 7, 20, 21, 22, 23] s.heap.size) s.heap s.heap [] := va_S.rf
  have vx := hF
  have hl : lv_has ls 1 [(0, .ref h0)] := hl
  have u_10 : ∀ w ∈ u_ws RX11 TX11 14, w.before args s = true := fun w hw => hts w ((by decide +kernel : ∀ w ∈ u_ws RX11 TX11 14, w ∈ wsX11_undo) w hw)
  have fg_94_10 : hw_FG s args m 94 10 5 := ⟨RX11, "WardWalkers", RX11, TX11, 14, u_10, hown, rfl, by decide, (hts (.fieldLink RX11 94 "WardWalkers" "pastCount" "I") (by decide +kernel)), (fun _ h9 => h9)⟩
  have fg_211_10 : hw_FG s args m 211 10 4 := ⟨RX11, "WardWalkers", RX11, TX11, 14, u_10, hown, rfl, by decide, (hts (.fieldLink RX11 211 "WardWalkers" "pastNext" "I") (by decide +kernel)), (fun _ h9 => h9)⟩
  have fp_211_10 : hw_FP s args m 211 10 4 false .int := ⟨RX11, "WardWalkers", RX11, TX11, 14, tyX11, u_10, hown, rfl, by decide, (hts (.fieldLink RX11 211 "WardWalkers" "pastNext" "I") (by decide +kernel)), (fun _ h9 => h9), tyX11_ok, nmX11, rfl, (fun h => by cases h), by decide +kernel⟩
  have fp_94_10 : hw_FP s args m 94 10 5 false .int := ⟨RX11, "WardWalkers", RX11, TX11, 14, tyX11, u_10, hown, rfl, by decide, (hts (.fieldLink RX11 94 "WardWalkers" "pastCount" "I") (by decide +kernel)), (fun _ h9 => h9), tyX11_ok, nmX11, rfl, (fun h => by cases h), by decide +kernel⟩
  have fg_26_10 : hw_FG s args m 26 10 2 := ⟨RX11, "WardWalkers", RX11, TX11, 14, u_10, hown, rfl, by decide, (hts (.fieldLink RX11 26 "WardWalkers" "now" "LWardWalkers$Standing;") (by decide +kernel)), (fun _ h9 => h9)⟩
  refine lv_aload_n hx hb dX11_undo_0 rfl (lv_at hl 0 rfl) ?_
  refine hw_get hx hb fg_94_10 hK vx rfl dX11_undo_1 ?_
  refine lv_if_gt (tgt := 10) hx hb dX11_undo_4 (by decide) (fun c1 => ?_) (fun c1 => ?_)
  · have b2 : 0 < pc_x.toInt := hw_ilt c1
    refine lv_aload_n hx hb dX11_undo_10 rfl (lv_at hl 0 rfl) ?_
    refine lv_dup hx hb dX11_undo_11 rfl ?_
    refine hw_get hx hb fg_211_10 hK vx rfl dX11_undo_12 ?_
    refine lv_iconst (v := 1) hx hb dX11_undo_15 (by decide) ?_
    refine lv_isub hx hb dX11_undo_16 ?_
    refine lv_topi (fun x3 e4 => ?_)
    refine hw_put (v := .int x3) (fs' := hw_LX rx x3 pc_x ks_x sc_x) hx hb fp_211_10 hK hH vx (Nat.le_of_ble_eq_true rfl) rfl rfl rfl (fun _ => by rw [G0]; exact ⟨rx, x3, pc_x, ks_x, sc_x, rfl, Rx, ⟨by first | decide | omega, by first | decide | omega⟩⟩) hS (hw_AWi G0 (by decide)) dX11_undo_17 (fun H locs hH vx oq hz hS => ?_)
    refine lv_aload_n hx hb dX11_undo_20 rfl (lv_at hl 0 rfl) ?_
    refine lv_dup hx hb dX11_undo_21 rfl ?_
    refine hw_get hx hb fg_94_10 hK vx rfl dX11_undo_22 ?_
    refine lv_iconst (v := 1) hx hb dX11_undo_25 (by decide) ?_
    refine lv_isub hx hb dX11_undo_26 ?_
    refine lv_topi (fun x5 e6 => ?_)
    have rg7 := hw_rng pc_x
    have t8 : x5.toInt = pc_x.toInt - 1 := by rw [e6]; exact hw_sub rfl rfl (by omega) (by omega)
    refine hw_put (v := .int x5) (fs' := hw_LX rx x3 x5 ks_x sc_x) hx hb fp_94_10 hK hH vx (Nat.le_of_ble_eq_true rfl) rfl rfl rfl (fun _ => by rw [G0]; exact ⟨rx, x3, x5, ks_x, sc_x, rfl, Rx, ⟨by first | decide | omega, by first | decide | omega⟩⟩) hS (hw_AWi G0 (by decide)) dX11_undo_27 (fun H locs hH vx oq hz hS => ?_)
    refine lv_aload_n hx hb dX11_undo_30 rfl (lv_at hl 0 rfl) ?_
    refine hw_get hx hb fg_26_10 hK vx rfl dX11_undo_31 ?_
    refine lv_aload_n hx hb dX11_undo_34 rfl (lv_at hl 0 rfl) ?_
    refine lv_aload_n hx hb dX11_undo_35 rfl (lv_at hl 0 rfl) ?_
    refine hw_get hx hb fg_211_10 hK vx rfl dX11_undo_36 ?_
    refine hw_cR (va_runV (As := [.int x3]) (rest := [.ref (rx 2)]) ⟨hx, hb, hml, hown, hts⟩ (k_X11_pastAt l D G h0 x3 _ G0) (cwV 1 hts gX11_undo_X11_pastAt rfl rfl rfl (by decide +kernel) ⟨Nat.le_of_ble_eq_true rfl, Nat.le_of_ble_eq_true rfl⟩) (hw_pV (hw_rc (q := (RX11, TX11, 14)) hK vx rfl) hH hK hST hS (by decide) (fun _ h => Or.inl h) trivial) rfl rfl hl.1 rfl (lv_room (Nat.le_of_ble_eq_true rfl)) dX11_undo_39 ⟨Nat.le_of_ble_eq_true rfl, Nat.le_of_ble_eq_true rfl⟩) (fun v hp => ?_)
    obtain ⟨b9, rfl, k10⟩ := hp
    obtain ⟨r11, td_12, fd_13, os_14, v15, R16⟩ := hH.oS k10
    obtain ⟨r17, td_18, fd_19, os_20, v21, R22⟩ := hH.oS (hw_RX_2 Rx)
    refine hw_cM0 (va_runV (As := [.ref b9]) (rest := []) ⟨hx, hb, hml, hown, hts⟩ (k_X9_takeFrom l D G (rx 2) b9 _ r11 td_12 fd_13 os_14 (hw_RX_2 Rx) k10 R16) (cwV 1 hts gX11_undo_X9_takeFrom rfl rfl rfl (by decide +kernel) ⟨Nat.le_of_ble_eq_true rfl, Nat.le_of_ble_eq_true rfl⟩) (hw_pV (hw_rc (q := (RX9, TX9, 7)) hK v21 rfl) hH hK hST hS (by decide) (fun _ h => Or.inl h) v15) rfl rfl hl.1 rfl (lv_room (Nat.le_of_ble_eq_true rfl)) dX11_undo_42 ⟨Nat.le_of_ble_eq_true rfl, Nat.le_of_ble_eq_true rfl⟩) hS (hw_AWsub (by decide) (fun _ _ => rfl) hS.1) (fun v H locs hp hz hk hS => ?_)
    obtain ⟨x23, x24, rfl, hH, v25⟩ := hp
    have vx := va_at.kept vx (hk _ (hw_lt vx) (hw_AWn G0 (by decide) (hw_lt vx)))
    refine lv_aload_n hx hb dX11_undo_45 rfl (lv_at hl 0 rfl) ?_
    refine hw_get hx hb fg_94_10 hK vx rfl dX11_undo_46 ?_
    exact hw_iretM (v := x5) hx hb hr hlocks hQ hS rfl (⟨x5, x3, x5, rfl, hH, vx, (by first | rfl | trivial | assumption | omega | (intros; first | rfl | assumption | omega | (exfalso; omega)))⟩) dX11_undo_49
  · have b26 : pc_x.toInt ≤ 0 := hw_inlt c1
    refine lv_bipush (v := (-4)) hx hb dX11_undo_7 (by decide) ?_
    exact hw_iretM (v := (-4)) hx hb hr hlocks hQ hS rfl (⟨(-4), pn_x, pc_x, rfl, hH, vx, (by first | rfl | trivial | assumption | omega | (intros; first | rfl | assumption | omega | (exfalso; omega)))⟩) dX11_undo_9

set_option maxHeartbeats 4000000 in
set_option maxRecDepth 100000 in
theorem k_X11_keep (l : Launch) (D : hw_D) (G : Nat → Nat) (h0 : Nat) (p1 : Int32) (sz : Nat) (rx : Nat → Nat) (pn_x pc_x ks_x sc_x : Int32) (rn : Nat → Nat) (td_n fd_n os_n : Int32) (G0 : G h0 = 1) (Rx : hw_RX G rx) (gsc_x : 0 ≤ sc_x.toInt ∧ sc_x.toInt ≤ 6) (Rn : hw_RS G rn) : Met l yX11_keep wsX11_keep ({ frames := 1, cells := 0, slots := 0, locals := 22 } : Room) (hw_PC D G [.ref h0, .int p1] sz (fun H => va_at D.1 vwCl (h0, .inr (10, hw_LX rx pn_x pc_x ks_x sc_x)) H ∧ va_at D.1 vwCl ((rx 2), .inr (8, hw_LS rn td_n fd_n os_n)) H)) (hw_QM (fun v H => (∃ (ks_x2 : Int32) (fd_n2 : Int32) (os_n2 : Int32), v = some (.int (-2)) ∧ hw_HT D G H ∧ va_at D.1 vwCl (h0, .inr (10, hw_LX rx pn_x pc_x ks_x2 sc_x)) H ∧ va_at D.1 vwCl ((rx 2), .inr (8, hw_LS rn td_n fd_n2 os_n2)) H ∧ (p1.toInt < 0 ∨ 1 < p1.toInt)) ∨ (∃ (r : Int32) (ks_x2 : Int32) (fd_n2 : Int32) (os_n2 : Int32), v = some (.int r) ∧ hw_HT D G H ∧ va_at D.1 vwCl (h0, .inr (10, hw_LX rx pn_x pc_x ks_x2 sc_x)) H ∧ va_at D.1 vwCl ((rx 2), .inr (8, hw_LS rn td_n fd_n2 os_n2)) H ∧ (0 ≤ p1.toInt ∧ p1.toInt ≤ 1) ∧ r = td_n)) (hw_AW G [1, 7, 8, 20, 21, 22, 23, 24] sz)) 0 0 (hw_AW G [1, 7, 8, 20, 21, 22, 23, 24] sz) := by
  refine hw_met (cc := cX11_keep) (maxL := 2) (ret := (some .int)) (plainFor_of_name (by decide)) rfl (Nat.le_of_ble_eq_true rfl) ?_
  intro p e s m args below meth c QQ ls hsz hx hb hml hr hts hown hlocks hnm hH hK hST hF hQ hl
  subst hsz
  have hS : va_S (hw_AW G [1, 7, 8, 20, 21, 22, 23, 24] s.heap.size) s.heap s.heap [] := va_S.rf
  obtain ⟨vx, vn⟩ := hF
  have hl : lv_has ls 2 [(0, .ref h0), (1, .int p1)] := hl
  have u_10 : ∀ w ∈ u_ws RX11 TX11 14, w.before args s = true := fun w hw => hts w ((by decide +kernel : ∀ w ∈ u_ws RX11 TX11 14, w ∈ wsX11_keep) w hw)
  have fg_34_10 : hw_FG s args m 34 10 6 := ⟨RX11, "WardWalkers", RX11, TX11, 14, u_10, hown, rfl, by decide, (hts (.fieldLink RX11 34 "WardWalkers" "keptStandings" "[LWardWalkers$Standing;") (by decide +kernel)), (fun _ h9 => h9)⟩
  have fg_26_10 : hw_FG s args m 26 10 2 := ⟨RX11, "WardWalkers", RX11, TX11, 14, u_10, hown, rfl, by decide, (hts (.fieldLink RX11 26 "WardWalkers" "now" "LWardWalkers$Standing;") (by decide +kernel)), (fun _ h9 => h9)⟩
  have fg_37_10 : hw_FG s args m 37 10 7 := ⟨RX11, "WardWalkers", RX11, TX11, 14, u_10, hown, rfl, by decide, (hts (.fieldLink RX11 37 "WardWalkers" "keptTexts" "[LWardWalkers$Text;") (by decide +kernel)), (fun _ h9 => h9)⟩
  have fg_19_10 : hw_FG s args m 19 10 1 := ⟨RX11, "WardWalkers", RX11, TX11, 14, u_10, hown, rfl, by decide, (hts (.fieldLink RX11 19 "WardWalkers" "text" "LWardWalkers$Text;") (by decide +kernel)), (fun _ h9 => h9)⟩
  have fg_91_10 : hw_FG s args m 91 10 8 := ⟨RX11, "WardWalkers", RX11, TX11, 14, u_10, hown, rfl, by decide, (hts (.fieldLink RX11 91 "WardWalkers" "keptSet" "I") (by decide +kernel)), (fun _ h9 => h9)⟩
  have fp_91_10 : hw_FP s args m 91 10 8 false .int := ⟨RX11, "WardWalkers", RX11, TX11, 14, tyX11, u_10, hown, rfl, by decide, (hts (.fieldLink RX11 91 "WardWalkers" "keptSet" "I") (by decide +kernel)), (fun _ h9 => h9), tyX11_ok, nmX11, rfl, (fun h => by cases h), by decide +kernel⟩
  have u_8 : ∀ w ∈ u_ws RX9 TX9 7, w.before args s = true := fun w hw => hts w ((by decide +kernel : ∀ w ∈ u_ws RX9 TX9 7, w ∈ wsX11_keep) w hw)
  have fg_205_8 : hw_FG s args m 205 8 0 := ⟨RX11, "WardWalkers$Standing", RX9, TX9, 7, u_8, hown, rfl, by decide, (hts (.fieldLink RX11 205 "WardWalkers$Standing" "today" "I") (by decide +kernel)), (fun _ h9 => h9)⟩
  refine lv_iload_n hx hb dX11_keep_0 rfl (lv_at hl 1 rfl) ?_
  refine lv_if_lt (tgt := 9) hx hb dX11_keep_1 (by decide) (fun c1 => ?_) (fun c1 => ?_)
  · have b2 : p1.toInt < 0 := hw_ilt c1
    refine lv_bipush (v := (-2)) hx hb dX11_keep_9 (by decide) ?_
    exact hw_iretM (v := (-2)) hx hb hr hlocks hQ hS rfl (Or.inl ⟨ks_x, fd_n, os_n, rfl, hH, vx, vn, (by first | rfl | trivial | assumption | omega | (intros; first | rfl | assumption | omega | (exfalso; omega)))⟩) dX11_keep_11
  · have b3 : 0 ≤ p1.toInt := hw_inlt c1
    refine lv_iload_n hx hb dX11_keep_4 rfl (lv_at hl 1 rfl) ?_
    refine lv_iconst (v := 2) hx hb dX11_keep_5 (by decide) ?_
    refine lv_icmp_lt (tgt := 12) hx hb dX11_keep_6 (by decide) (fun c4 => ?_) (fun c4 => ?_)
    · have b5 : p1.toInt < 2 := hw_ilt c4
      refine lv_aload_n hx hb dX11_keep_12 rfl (lv_at hl 0 rfl) ?_
      refine hw_get hx hb fg_34_10 hK vx rfl dX11_keep_13 ?_
      refine lv_iload_n hx hb dX11_keep_16 rfl (lv_at hl 1 rfl) ?_
      obtain ⟨f6, v7, q8⟩ := hH.a28 (hw_RX_6 Rx)
      have n9 : vp_in p1 2 := (hw_in (by omega) (by omega))
      refine hw_aald (t := 5) hx hb hK v7 rfl n9 dX11_keep_17 ?_
      have l10 : p1.toNatClampNeg < 2 := Nat.not_le.mp fun q => n9 (Or.inr q)
      obtain ⟨b11, e12, k13⟩ := q8 _ l10
      rw [e12]
      refine W.eq (g2 := F0 m 18 ls [.ref b11]) rfl ?_
      refine lv_aload_n hx hb dX11_keep_18 rfl (lv_at hl 0 rfl) ?_
      refine hw_get hx hb fg_26_10 hK vx rfl dX11_keep_19 ?_
      obtain ⟨r14, td_15, fd_16, os_17, v18, R19⟩ := hH.oS k13
      refine hw_cM0 (va_runV (As := [.ref (rx 2)]) (rest := []) ⟨hx, hb, hml, hown, hts⟩ (k_X9_takeFrom l D G b11 (rx 2) _ rn td_n fd_n os_n k13 (hw_RX_2 Rx) Rn) (cwV 1 hts gX11_keep_X9_takeFrom rfl rfl rfl (by decide +kernel) ⟨Nat.le_of_ble_eq_true rfl, Nat.le_of_ble_eq_true rfl⟩) (hw_pV (hw_rc (q := (RX9, TX9, 7)) hK v18 rfl) hH hK hST hS (by decide) (fun _ h => Or.inl h) vn) rfl rfl hl.1 rfl (lv_room (Nat.le_of_ble_eq_true rfl)) dX11_keep_22 ⟨Nat.le_of_ble_eq_true rfl, Nat.le_of_ble_eq_true rfl⟩) hS (hw_AWsub (by decide) (fun _ _ => rfl) hS.1) (fun v H locs hp hz hk hS => ?_)
      obtain ⟨x20, x21, rfl, hH, v22⟩ := hp
      have vx := va_at.kept vx (hk _ (hw_lt vx) (hw_AWn G0 (by decide) (hw_lt vx)))
      refine lv_aload_n hx hb dX11_keep_25 rfl (lv_at hl 0 rfl) ?_
      refine hw_get hx hb fg_37_10 hK vx rfl dX11_keep_26 ?_
      refine lv_iload_n hx hb dX11_keep_29 rfl (lv_at hl 1 rfl) ?_
      obtain ⟨f23, v24, q25⟩ := hH.a29 (hw_RX_7 Rx)
      have n26 : vp_in p1 2 := (hw_in (by omega) (by omega))
      refine hw_aald (t := 6) hx hb hK v24 rfl n26 dX11_keep_30 ?_
      have l27 : p1.toNatClampNeg < 2 := Nat.not_le.mp fun q => n26 (Or.inr q)
      obtain ⟨b28, e29, k30⟩ := q25 _ l27
      rw [e29]
      refine W.eq (g2 := F0 m 31 ls [.ref b28]) rfl ?_
      refine lv_aload_n hx hb dX11_keep_31 rfl (lv_at hl 0 rfl) ?_
      refine hw_get hx hb fg_19_10 hK vx rfl dX11_keep_32 ?_
      obtain ⟨r31, ln_32, cl_33, st_34, en_35, kf_36, lf_37, wf_38, v39, R40, g41, g42, g43, g44⟩ := hH.oT k30
      refine hw_cM0 (va_runV (As := [.ref (rx 1)]) (rest := []) ⟨hx, hb, hml, hown, hts⟩ (k_X10_takeLetters l D G b28 (rx 1) _ k30 (hw_RX_1 Rx)) (cwV 1 hts gX11_keep_X10_takeLetters rfl rfl rfl (by decide +kernel) ⟨Nat.le_of_ble_eq_true rfl, Nat.le_of_ble_eq_true rfl⟩) (hw_pV (hw_rc (q := (RX10, TX10, 10)) hK v39 rfl) hH hK hST hS (by decide) (fun _ h => Or.inl h) trivial) rfl rfl hl.1 rfl (lv_room (Nat.le_of_ble_eq_true rfl)) dX11_keep_35 ⟨Nat.le_of_ble_eq_true rfl, Nat.le_of_ble_eq_true rfl⟩) hS (hw_AWsub (by decide) (fun _ _ => rfl) hS.1) (fun v H locs hp hz hk hS => ?_)
      obtain ⟨rfl, hH⟩ := hp
      have vx := va_at.kept vx (hk _ (hw_lt vx) (hw_AWn G0 (by decide) (hw_lt vx)))
      have v22 := va_at.kept v22 (hk _ (hw_lt v22) (hw_AWn (hw_RX_2 Rx) (by decide) (hw_lt v22)))
      refine lv_aload_n hx hb dX11_keep_38 rfl (lv_at hl 0 rfl) ?_
      refine lv_dup hx hb dX11_keep_39 rfl ?_
      refine hw_get hx hb fg_91_10 hK vx rfl dX11_keep_40 ?_
      refine lv_iconst (v := 1) hx hb dX11_keep_43 (by decide) ?_
      refine lv_iload_n hx hb dX11_keep_44 rfl (lv_at hl 1 rfl) ?_
      refine lv_ishl hx hb dX11_keep_45 ?_
      refine lv_topi (fun x45 e46 => ?_)
      have t47 : 1 ≤ x45.toInt ∧ x45.toInt ≤ 2 := by rw [e46]; exact hw_sh1b 1 (by decide) (by first | decide | omega) (by first | decide | omega)
      refine lv_ior hx hb dX11_keep_46 ?_
      refine lv_topi (fun x48 e49 => ?_)
      refine hw_put (v := .int x48) (fs' := hw_LX rx pn_x pc_x x48 sc_x) hx hb fp_91_10 hK hH vx (Nat.le_of_ble_eq_true rfl) rfl rfl rfl (fun _ => by rw [G0]; exact ⟨rx, pn_x, pc_x, x48, sc_x, rfl, Rx, ⟨by first | decide | omega, by first | decide | omega⟩⟩) hS (hw_AWi G0 (by decide)) dX11_keep_47 (fun H locs hH vx oq hz hS => ?_)
      have v22 := va_at.kept v22 (oq _ (hw_ne (hw_RX_2 Rx) G0 (by decide)))
      refine lv_aload_n hx hb dX11_keep_50 rfl (lv_at hl 0 rfl) ?_
      refine hw_get hx hb fg_26_10 hK vx rfl dX11_keep_51 ?_
      refine hw_get hx hb fg_205_8 hK v22 rfl dX11_keep_54 ?_
      exact hw_iretM (v := td_n) hx hb hr hlocks hQ hS rfl (Or.inr (⟨td_n, x48, x20, x21, rfl, hH, vx, v22, (by first | rfl | trivial | assumption | omega | (intros; first | rfl | assumption | omega | (exfalso; omega))), (by first | rfl | trivial | assumption | omega | (intros; first | rfl | assumption | omega | (exfalso; omega)))⟩)) dX11_keep_57
    · have b50 : 2 ≤ p1.toInt := hw_inlt c4
      refine lv_bipush (v := (-2)) hx hb dX11_keep_9 (by decide) ?_
      exact hw_iretM (v := (-2)) hx hb hr hlocks hQ hS rfl (Or.inl ⟨ks_x, fd_n, os_n, rfl, hH, vx, vn, (by first | rfl | trivial | assumption | omega | (intros; first | rfl | assumption | omega | (exfalso; omega)))⟩) dX11_keep_11

set_option maxHeartbeats 4000000 in
set_option maxRecDepth 100000 in
theorem k_X11_back (l : Launch) (D : hw_D) (G : Nat → Nat) (h0 : Nat) (p1 : Int32) (sz : Nat) (rx : Nat → Nat) (pn_x pc_x ks_x sc_x : Int32) (G0 : G h0 = 1) (Rx : hw_RX G rx) (gsc_x : 0 ≤ sc_x.toInt ∧ sc_x.toInt ≤ 6) : Met l yX11_back wsX11_back ({ frames := 1, cells := 0, slots := 0, locals := 22 } : Room) (hw_PC D G [.ref h0, .int p1] sz (fun H => va_at D.1 vwCl (h0, .inr (10, hw_LX rx pn_x pc_x ks_x sc_x)) H)) (hw_QM (fun v H => (∃ (pc_x2 : Int32), v = some (.int (-2)) ∧ hw_HT D G H ∧ va_at D.1 vwCl (h0, .inr (10, hw_LX rx pn_x pc_x2 ks_x sc_x)) H ∧ (p1.toInt < 0 ∨ 1 < p1.toInt)) ∨ (∃ (pc_x2 : Int32), v = some (.int (-4)) ∧ hw_HT D G H ∧ va_at D.1 vwCl (h0, .inr (10, hw_LX rx pn_x pc_x2 ks_x sc_x)) H ∧ (0 ≤ p1.toInt ∧ p1.toInt ≤ 1)) ∨ (∃ (r : Int32) (pc_x2 : Int32), v = some (.int r) ∧ hw_HT D G H ∧ va_at D.1 vwCl (h0, .inr (10, hw_LX rx pn_x pc_x2 ks_x sc_x)) H ∧ (0 ≤ p1.toInt ∧ p1.toInt ≤ 1) ∧ ks_x ≠ 0)) (hw_AW G [1, 7, 8, 20, 21, 22, 23, 24] sz)) 0 0 (hw_AW G [1, 7, 8, 20, 21, 22, 23, 24] sz) := by
  refine hw_met (cc := cX11_back) (maxL := 2) (ret := (some .int)) (plainFor_of_name (by decide)) rfl (Nat.le_of_ble_eq_true rfl) ?_
  intro p e s m args below meth c QQ ls hsz hx hb hml hr hts hown hlocks hnm hH hK hST hF hQ hl
  subst hsz
  have hS : va_S (hw_AW G [1, 7, 8, 20, 21, 22, 23, 24] s.heap.size) s.heap s.heap [] := va_S.rf
  have vx := hF
  have hl : lv_has ls 2 [(0, .ref h0), (1, .int p1)] := hl
  have u_10 : ∀ w ∈ u_ws RX11 TX11 14, w.before args s = true := fun w hw => hts w ((by decide +kernel : ∀ w ∈ u_ws RX11 TX11 14, w ∈ wsX11_back) w hw)
  have fg_91_10 : hw_FG s args m 91 10 8 := ⟨RX11, "WardWalkers", RX11, TX11, 14, u_10, hown, rfl, by decide, (hts (.fieldLink RX11 91 "WardWalkers" "keptSet" "I") (by decide +kernel)), (fun _ h9 => h9)⟩
  have fg_26_10 : hw_FG s args m 26 10 2 := ⟨RX11, "WardWalkers", RX11, TX11, 14, u_10, hown, rfl, by decide, (hts (.fieldLink RX11 26 "WardWalkers" "now" "LWardWalkers$Standing;") (by decide +kernel)), (fun _ h9 => h9)⟩
  have fg_34_10 : hw_FG s args m 34 10 6 := ⟨RX11, "WardWalkers", RX11, TX11, 14, u_10, hown, rfl, by decide, (hts (.fieldLink RX11 34 "WardWalkers" "keptStandings" "[LWardWalkers$Standing;") (by decide +kernel)), (fun _ h9 => h9)⟩
  have fg_19_10 : hw_FG s args m 19 10 1 := ⟨RX11, "WardWalkers", RX11, TX11, 14, u_10, hown, rfl, by decide, (hts (.fieldLink RX11 19 "WardWalkers" "text" "LWardWalkers$Text;") (by decide +kernel)), (fun _ h9 => h9)⟩
  have fg_37_10 : hw_FG s args m 37 10 7 := ⟨RX11, "WardWalkers", RX11, TX11, 14, u_10, hown, rfl, by decide, (hts (.fieldLink RX11 37 "WardWalkers" "keptTexts" "[LWardWalkers$Text;") (by decide +kernel)), (fun _ h9 => h9)⟩
  have fp_94_10 : hw_FP s args m 94 10 5 false .int := ⟨RX11, "WardWalkers", RX11, TX11, 14, tyX11, u_10, hown, rfl, by decide, (hts (.fieldLink RX11 94 "WardWalkers" "pastCount" "I") (by decide +kernel)), (fun _ h9 => h9), tyX11_ok, nmX11, rfl, (fun h => by cases h), by decide +kernel⟩
  have u_8 : ∀ w ∈ u_ws RX9 TX9 7, w.before args s = true := fun w hw => hts w ((by decide +kernel : ∀ w ∈ u_ws RX9 TX9 7, w ∈ wsX11_back) w hw)
  have fg_205_8 : hw_FG s args m 205 8 0 := ⟨RX11, "WardWalkers$Standing", RX9, TX9, 7, u_8, hown, rfl, by decide, (hts (.fieldLink RX11 205 "WardWalkers$Standing" "today" "I") (by decide +kernel)), (fun _ h9 => h9)⟩
  refine lv_iload_n hx hb dX11_back_0 rfl (lv_at hl 1 rfl) ?_
  refine lv_if_lt (tgt := 9) hx hb dX11_back_1 (by decide) (fun c1 => ?_) (fun c1 => ?_)
  · have b2 : p1.toInt < 0 := hw_ilt c1
    refine lv_bipush (v := (-2)) hx hb dX11_back_9 (by decide) ?_
    exact hw_iretM (v := (-2)) hx hb hr hlocks hQ hS rfl (Or.inl ⟨pc_x, rfl, hH, vx, (by first | rfl | trivial | assumption | omega | (intros; first | rfl | assumption | omega | (exfalso; omega)))⟩) dX11_back_11
  · have b3 : 0 ≤ p1.toInt := hw_inlt c1
    refine lv_iload_n hx hb dX11_back_4 rfl (lv_at hl 1 rfl) ?_
    refine lv_iconst (v := 2) hx hb dX11_back_5 (by decide) ?_
    refine lv_icmp_lt (tgt := 12) hx hb dX11_back_6 (by decide) (fun c4 => ?_) (fun c4 => ?_)
    · have b5 : p1.toInt < 2 := hw_ilt c4
      refine lv_aload_n hx hb dX11_back_12 rfl (lv_at hl 0 rfl) ?_
      refine hw_get hx hb fg_91_10 hK vx rfl dX11_back_13 ?_
      refine lv_iload_n hx hb dX11_back_16 rfl (lv_at hl 1 rfl) ?_
      refine lv_ishr hx hb dX11_back_17 ?_
      refine lv_topi (fun x6 e7 => ?_)
      refine lv_iconst (v := 1) hx hb dX11_back_18 (by decide) ?_
      refine lv_iand hx hb dX11_back_19 ?_
      refine lv_topi (fun x8 e9 => ?_)
      have t10 : 0 ≤ x8.toInt ∧ x8.toInt ≤ 1 := by rw [e9]; exact hw_and (by first | decide | omega)
      have hks : ks_x = 0 → x8 = 0 := by intro h9; rw [e9, e7, h9]; exact hw_bit0 _
      refine lv_if_ne (tgt := 26) hx hb dX11_back_20 (by decide) (fun c11 => ?_) (fun c11 => ?_)
      · have b12 : x8.toInt ≠ 0 := hw_ine c11
        refine lv_aload_n hx hb dX11_back_26 rfl (lv_at hl 0 rfl) ?_
        refine hw_get hx hb fg_26_10 hK vx rfl dX11_back_27 ?_
        refine lv_aload_n hx hb dX11_back_30 rfl (lv_at hl 0 rfl) ?_
        refine hw_get hx hb fg_34_10 hK vx rfl dX11_back_31 ?_
        refine lv_iload_n hx hb dX11_back_34 rfl (lv_at hl 1 rfl) ?_
        obtain ⟨f13, v14, q15⟩ := hH.a28 (hw_RX_6 Rx)
        have n16 : vp_in p1 2 := (hw_in (by omega) (by omega))
        refine hw_aald (t := 5) hx hb hK v14 rfl n16 dX11_back_35 ?_
        have l17 : p1.toNatClampNeg < 2 := Nat.not_le.mp fun q => n16 (Or.inr q)
        obtain ⟨b18, e19, k20⟩ := q15 _ l17
        rw [e19]
        refine W.eq (g2 := F0 m 36 ls [.ref b18, .ref (rx 2)]) rfl ?_
        obtain ⟨r21, td_22, fd_23, os_24, v25, R26⟩ := hH.oS k20
        obtain ⟨r27, td_28, fd_29, os_30, v31, R32⟩ := hH.oS (hw_RX_2 Rx)
        refine hw_cM0 (va_runV (As := [.ref b18]) (rest := []) ⟨hx, hb, hml, hown, hts⟩ (k_X9_takeFrom l D G (rx 2) b18 _ r21 td_22 fd_23 os_24 (hw_RX_2 Rx) k20 R26) (cwV 1 hts gX11_back_X9_takeFrom rfl rfl rfl (by decide +kernel) ⟨Nat.le_of_ble_eq_true rfl, Nat.le_of_ble_eq_true rfl⟩) (hw_pV (hw_rc (q := (RX9, TX9, 7)) hK v31 rfl) hH hK hST hS (by decide) (fun _ h => Or.inl h) v25) rfl rfl hl.1 rfl (lv_room (Nat.le_of_ble_eq_true rfl)) dX11_back_36 ⟨Nat.le_of_ble_eq_true rfl, Nat.le_of_ble_eq_true rfl⟩) hS (hw_AWsub (by decide) (fun _ _ => rfl) hS.1) (fun v H locs hp hz hk hS => ?_)
        obtain ⟨x33, x34, rfl, hH, v35⟩ := hp
        have vx := va_at.kept vx (hk _ (hw_lt vx) (hw_AWn G0 (by decide) (hw_lt vx)))
        refine lv_aload_n hx hb dX11_back_39 rfl (lv_at hl 0 rfl) ?_
        refine hw_get hx hb fg_19_10 hK vx rfl dX11_back_40 ?_
        refine lv_aload_n hx hb dX11_back_43 rfl (lv_at hl 0 rfl) ?_
        refine hw_get hx hb fg_37_10 hK vx rfl dX11_back_44 ?_
        refine lv_iload_n hx hb dX11_back_47 rfl (lv_at hl 1 rfl) ?_
        obtain ⟨f36, v37, q38⟩ := hH.a29 (hw_RX_7 Rx)
        have n39 : vp_in p1 2 := (hw_in (by omega) (by omega))
        refine hw_aald (t := 6) hx hb hK v37 rfl n39 dX11_back_48 ?_
        have l40 : p1.toNatClampNeg < 2 := Nat.not_le.mp fun q => n39 (Or.inr q)
        obtain ⟨b41, e42, k43⟩ := q38 _ l40
        rw [e42]
        refine W.eq (g2 := F0 m 49 ls [.ref b41, .ref (rx 1)]) rfl ?_
        obtain ⟨r44, ln_45, cl_46, st_47, en_48, kf_49, lf_50, wf_51, v52, R53, g54, g55, g56, g57⟩ := hH.oT (hw_RX_1 Rx)
        refine hw_cM0 (va_runV (As := [.ref b41]) (rest := []) ⟨hx, hb, hml, hown, hts⟩ (k_X10_takeLetters l D G (rx 1) b41 _ (hw_RX_1 Rx) k43) (cwV 1 hts gX11_back_X10_takeLetters rfl rfl rfl (by decide +kernel) ⟨Nat.le_of_ble_eq_true rfl, Nat.le_of_ble_eq_true rfl⟩) (hw_pV (hw_rc (q := (RX10, TX10, 10)) hK v52 rfl) hH hK hST hS (by decide) (fun _ h => Or.inl h) trivial) rfl rfl hl.1 rfl (lv_room (Nat.le_of_ble_eq_true rfl)) dX11_back_49 ⟨Nat.le_of_ble_eq_true rfl, Nat.le_of_ble_eq_true rfl⟩) hS (hw_AWsub (by decide) (fun _ _ => rfl) hS.1) (fun v H locs hp hz hk hS => ?_)
        obtain ⟨rfl, hH⟩ := hp
        have vx := va_at.kept vx (hk _ (hw_lt vx) (hw_AWn G0 (by decide) (hw_lt vx)))
        have v35 := va_at.kept v35 (hk _ (hw_lt v35) (hw_AWn k20 (by decide) (hw_lt v35)))
        refine lv_aload_n hx hb dX11_back_52 rfl (lv_at hl 0 rfl) ?_
        refine lv_iconst (v := 0) hx hb dX11_back_53 (by decide) ?_
        refine hw_put (v := .int 0) (fs' := hw_LX rx pn_x 0 ks_x sc_x) hx hb fp_94_10 hK hH vx (Nat.le_of_ble_eq_true rfl) rfl rfl rfl (fun _ => by rw [G0]; exact ⟨rx, pn_x, 0, ks_x, sc_x, rfl, Rx, ⟨by first | decide | omega, by first | decide | omega⟩⟩) hS (hw_AWi G0 (by decide)) dX11_back_54 (fun H locs hH vx oq hz hS => ?_)
        have v35 := va_at.kept v35 (oq _ (hw_ne k20 G0 (by decide)))
        refine lv_aload_n hx hb dX11_back_57 rfl (lv_at hl 0 rfl) ?_
        refine hw_get hx hb fg_26_10 hK vx rfl dX11_back_58 ?_
        obtain ⟨r58, td_59, fd_60, os_61, v62, R63⟩ := hH.oS (hw_RX_2 Rx)
        refine hw_get hx hb fg_205_8 hK v62 rfl dX11_back_61 ?_
        exact hw_iretM (v := td_59) hx hb hr hlocks hQ hS rfl (Or.inr (Or.inr (⟨td_59, 0, rfl, hH, vx, (by first | rfl | trivial | assumption | omega | (intros; first | rfl | assumption | omega | (exfalso; omega))), (by intro h9; have := hks h9; contradiction)⟩))) dX11_back_64
      · have b64 : x8.toInt = 0 := hw_ieq c11
        refine lv_bipush (v := (-4)) hx hb dX11_back_23 (by decide) ?_
        exact hw_iretM (v := (-4)) hx hb hr hlocks hQ hS rfl (Or.inr (Or.inl ⟨pc_x, rfl, hH, vx, (by first | rfl | trivial | assumption | omega | (intros; first | rfl | assumption | omega | (exfalso; omega)))⟩)) dX11_back_25
    · have b65 : 2 ≤ p1.toInt := hw_inlt c4
      refine lv_bipush (v := (-2)) hx hb dX11_back_9 (by decide) ?_
      exact hw_iretM (v := (-2)) hx hb hr hlocks hQ hS rfl (Or.inl ⟨pc_x, rfl, hH, vx, (by first | rfl | trivial | assumption | omega | (intros; first | rfl | assumption | omega | (exfalso; omega)))⟩) dX11_back_11

set_option maxHeartbeats 4000000 in
set_option maxRecDepth 100000 in
theorem k_X11_belongs (l : Launch) (D : hw_D) (G : Nat → Nat) (h0 : Nat) (p1 : Int32) (sz : Nat) (rx : Nat → Nat) (pn_x pc_x ks_x sc_x : Int32) (rc : Nat → Nat) (kc_c lc_c wc_c dk_c : Int32) (G0 : G h0 = 1) (Rx : hw_RX G rx) (gsc_x : 0 ≤ sc_x.toInt ∧ sc_x.toInt ≤ 6) (Rc : hw_RC G rc) (gkc_c : 0 ≤ kc_c.toInt ∧ kc_c.toInt ≤ 7) (glc_c : 0 ≤ lc_c.toInt ∧ lc_c.toInt ≤ 7) (gwc_c : 0 ≤ wc_c.toInt ∧ wc_c.toInt ≤ 3) : Met l yX11_belongs wsX11_belongs ({ frames := 5, cells := 0, slots := 0, locals := 114 } : Room) (hw_PC D G [.ref h0, .int p1] sz (fun H => va_at D.1 vwCl (h0, .inr (10, hw_LX rx pn_x pc_x ks_x sc_x)) H ∧ va_at D.1 vwCl ((rx 0), .inr (1, hw_LC rc kc_c lc_c wc_c dk_c)) H)) (hw_QR (fun v => ∃ (r : Int32), v = .int r ∧ (kc_c.toInt = 0 → r.toInt = -2))) 0 0 (fun _ => False) := by
  refine hw_met (cc := cX11_belongs) (maxL := 3) (ret := (some .int)) (plainFor_of_name (by decide)) rfl (Nat.le_of_ble_eq_true rfl) ?_
  intro p e s m args below meth c QQ ls hsz hx hb hml hr hts hown hlocks hnm hH hK hST hF hQ hl
  subst hsz
  have hS : va_S (hw_AW G [] s.heap.size) s.heap s.heap [] := va_S.rf
  obtain ⟨vx, vc⟩ := hF
  have hl : lv_has ls 3 [(0, .ref h0), (1, .int p1)] := hl
  have u_10 : ∀ w ∈ u_ws RX11 TX11 14, w.before args s = true := fun w hw => hts w ((by decide +kernel : ∀ w ∈ u_ws RX11 TX11 14, w ∈ wsX11_belongs) w hw)
  have fg_10_10 : hw_FG s args m 10 10 0 := ⟨RX11, "WardWalkers", RX11, TX11, 14, u_10, hown, rfl, by decide, (hts (.fieldLink RX11 10 "WardWalkers" "country" "LWardWalkers$Country;") (by decide +kernel)), (fun _ h9 => h9)⟩
  have fg_26_10 : hw_FG s args m 26 10 2 := ⟨RX11, "WardWalkers", RX11, TX11, 14, u_10, hown, rfl, by decide, (hts (.fieldLink RX11 26 "WardWalkers" "now" "LWardWalkers$Standing;") (by decide +kernel)), (fun _ h9 => h9)⟩
  refine lv_aload_n hx hb dX11_belongs_0 rfl (lv_at hl 0 rfl) ?_
  refine hw_get hx hb fg_10_10 hK vx rfl dX11_belongs_1 ?_
  refine lv_iload_n hx hb dX11_belongs_4 rfl (lv_at hl 1 rfl) ?_
  refine hw_cR (va_runV (As := [.int p1]) (rest := []) ⟨hx, hb, hml, hown, hts⟩ (k_X1_keyAt l D G (rx 0) p1 _ rc kc_c lc_c wc_c dk_c (hw_RX_0 Rx) Rc ⟨by first | decide | omega, by first | decide | omega⟩ ⟨by first | decide | omega, by first | decide | omega⟩ ⟨by first | decide | omega, by first | decide | omega⟩) (cwV 1 hts gX11_belongs_X1_keyAt rfl rfl rfl (by decide +kernel) ⟨Nat.le_of_ble_eq_true rfl, Nat.le_of_ble_eq_true rfl⟩) (hw_pV (hw_rc (q := (RX1, TX1, 7)) hK vc rfl) hH hK hST hS (by decide) (fun _ h => Or.inl h) vc) rfl rfl hl.1 rfl (lv_room (Nat.le_of_ble_eq_true rfl)) dX11_belongs_5 ⟨Nat.le_of_ble_eq_true rfl, Nat.le_of_ble_eq_true rfl⟩) (fun v hp => ?_)
  rcases hp with rfl | ⟨b1, rfl, k2, q3⟩
  · refine lv_astore_nN (lv' := [(2, .null), (0, .ref h0), (1, .int p1)]) hx hb dX11_belongs_8 rfl hl (by decide) rfl (fun ls hl => ?_)
    refine lv_aload_nN hx hb dX11_belongs_9 rfl (lv_at hl 0 rfl) ?_
    refine lv_ifnonnullN hx hb dX11_belongs_10 ?_
    refine lv_bipush (v := (-2)) hx hb dX11_belongs_13 (by decide) ?_
    refine lv_goto (tgt := 31) hx hb dX11_belongs_15 (by decide) ?_
    exact hw_iretR (v := (-2)) hx hb hr hlocks hQ rfl (⟨(-2), rfl, (by first | rfl | trivial | assumption | omega | (intros; first | rfl | assumption | omega | (exfalso; omega)))⟩) dX11_belongs_31
  · refine lv_astore_n (lv' := [(2, .ref b1), (0, .ref h0), (1, .int p1)]) hx hb dX11_belongs_8 rfl hl (by decide) rfl (fun ls hl => ?_)
    refine lv_aload_n hx hb dX11_belongs_9 rfl (lv_at hl 0 rfl) ?_
    refine lv_ifnonnull (tgt := 18) hx hb dX11_belongs_10 (by decide) ?_
    refine lv_aload_n hx hb dX11_belongs_18 rfl (lv_at hl 1 rfl) ?_
    refine lv_aload_n hx hb dX11_belongs_19 rfl (lv_at hl 0 rfl) ?_
    refine lv_aload_n hx hb dX11_belongs_20 rfl (lv_at hl 1 rfl) ?_
    refine hw_get hx hb fg_26_10 hK vx rfl dX11_belongs_21 ?_
    refine lv_iload_n hx hb dX11_belongs_24 rfl (lv_at hl 2 rfl) ?_
    obtain ⟨r4, td_5, fd_6, os_7, v8, R9⟩ := hH.oS (hw_RX_2 Rx)
    refine hw_cR (va_runV (As := [.int p1]) (rest := [.ref b1, .ref h0]) ⟨hx, hb, hml, hown, hts⟩ (k_X9_bentOf l D G (rx 2) p1 _ (hw_RX_2 Rx)) (cwV 1 hts gX11_belongs_X9_bentOf rfl rfl rfl (by decide +kernel) ⟨Nat.le_of_ble_eq_true rfl, Nat.le_of_ble_eq_true rfl⟩) (hw_pV (hw_rc (q := (RX9, TX9, 7)) hK v8 rfl) hH hK hST hS (by decide) (fun _ h => Or.inl h) trivial) rfl rfl hl.1 rfl (lv_room (Nat.le_of_ble_eq_true rfl)) dX11_belongs_25 ⟨Nat.le_of_ble_eq_true rfl, Nat.le_of_ble_eq_true rfl⟩) (fun v hp => ?_)
    obtain ⟨x10, rfl⟩ := hp
    refine hw_cR (va_runV (As := [.ref b1, .int x10]) (rest := []) ⟨hx, hb, hml, hown, hts⟩ (k_X11_locksFor l D G h0 b1 x10 _ G0 k2) (cwV 2 hts gX11_belongs_X11_locksFor rfl rfl rfl (by decide +kernel) ⟨Nat.le_of_ble_eq_true rfl, Nat.le_of_ble_eq_true rfl⟩) (hw_pV (hw_rc (q := (RX11, TX11, 14)) hK vx rfl) hH hK hST hS (by decide) (fun _ h => Or.inl h) trivial) rfl rfl hl.1 rfl (lv_room (Nat.le_of_ble_eq_true rfl)) dX11_belongs_28 ⟨Nat.le_of_ble_eq_true rfl, Nat.le_of_ble_eq_true rfl⟩) (fun v hp => ?_)
    obtain ⟨x11, rfl⟩ := hp
    exact hw_iretR (v := x11) hx hb hr hlocks hQ rfl (⟨x11, rfl, (by first | rfl | trivial | assumption | omega | (intros; first | rfl | assumption | omega | (exfalso; omega)))⟩) dX11_belongs_31

set_option maxHeartbeats 4000000 in
set_option maxRecDepth 100000 in
theorem k_X11_openers (l : Launch) (D : hw_D) (G : Nat → Nat) (h0 : Nat) (p1 : Int32) (sz : Nat) (rx : Nat → Nat) (pn_x pc_x ks_x sc_x : Int32) (rc : Nat → Nat) (kc_c lc_c wc_c dk_c : Int32) (G0 : G h0 = 1) (Rx : hw_RX G rx) (gsc_x : 0 ≤ sc_x.toInt ∧ sc_x.toInt ≤ 6) (Rc : hw_RC G rc) (gkc_c : 0 ≤ kc_c.toInt ∧ kc_c.toInt ≤ 7) (glc_c : 0 ≤ lc_c.toInt ∧ lc_c.toInt ≤ 7) (gwc_c : 0 ≤ wc_c.toInt ∧ wc_c.toInt ≤ 3) : Met l yX11_openers wsX11_openers ({ frames := 5, cells := 0, slots := 0, locals := 113 } : Room) (hw_PC D G [.ref h0, .int p1] sz (fun H => va_at D.1 vwCl (h0, .inr (10, hw_LX rx pn_x pc_x ks_x sc_x)) H ∧ va_at D.1 vwCl ((rx 0), .inr (1, hw_LC rc kc_c lc_c wc_c dk_c)) H)) (hw_QR (fun v => ∃ (r : Int32), v = .int r ∧ (lc_c.toInt = 0 → r.toInt = -2))) 0 0 (fun _ => False) := by
  refine hw_met (cc := cX11_openers) (maxL := 3) (ret := (some .int)) (plainFor_of_name (by decide)) rfl (Nat.le_of_ble_eq_true rfl) ?_
  intro p e s m args below meth c QQ ls hsz hx hb hml hr hts hown hlocks hnm hH hK hST hF hQ hl
  subst hsz
  have hS : va_S (hw_AW G [] s.heap.size) s.heap s.heap [] := va_S.rf
  obtain ⟨vx, vc⟩ := hF
  have hl : lv_has ls 3 [(0, .ref h0), (1, .int p1)] := hl
  have u_10 : ∀ w ∈ u_ws RX11 TX11 14, w.before args s = true := fun w hw => hts w ((by decide +kernel : ∀ w ∈ u_ws RX11 TX11 14, w ∈ wsX11_openers) w hw)
  have fg_10_10 : hw_FG s args m 10 10 0 := ⟨RX11, "WardWalkers", RX11, TX11, 14, u_10, hown, rfl, by decide, (hts (.fieldLink RX11 10 "WardWalkers" "country" "LWardWalkers$Country;") (by decide +kernel)), (fun _ h9 => h9)⟩
  refine lv_aload_n hx hb dX11_openers_0 rfl (lv_at hl 0 rfl) ?_
  refine hw_get hx hb fg_10_10 hK vx rfl dX11_openers_1 ?_
  refine lv_iload_n hx hb dX11_openers_4 rfl (lv_at hl 1 rfl) ?_
  refine hw_cR (va_runV (As := [.int p1]) (rest := []) ⟨hx, hb, hml, hown, hts⟩ (k_X1_lockAt l D G (rx 0) p1 _ rc kc_c lc_c wc_c dk_c (hw_RX_0 Rx) Rc ⟨by first | decide | omega, by first | decide | omega⟩ ⟨by first | decide | omega, by first | decide | omega⟩ ⟨by first | decide | omega, by first | decide | omega⟩) (cwV 1 hts gX11_openers_X1_lockAt rfl rfl rfl (by decide +kernel) ⟨Nat.le_of_ble_eq_true rfl, Nat.le_of_ble_eq_true rfl⟩) (hw_pV (hw_rc (q := (RX1, TX1, 7)) hK vc rfl) hH hK hST hS (by decide) (fun _ h => Or.inl h) vc) rfl rfl hl.1 rfl (lv_room (Nat.le_of_ble_eq_true rfl)) dX11_openers_5 ⟨Nat.le_of_ble_eq_true rfl, Nat.le_of_ble_eq_true rfl⟩) (fun v hp => ?_)
  rcases hp with rfl | ⟨b1, rfl, k2, q3⟩
  · refine lv_astore_nN (lv' := [(2, .null), (0, .ref h0), (1, .int p1)]) hx hb dX11_openers_8 rfl hl (by decide) rfl (fun ls hl => ?_)
    refine lv_aload_nN hx hb dX11_openers_9 rfl (lv_at hl 0 rfl) ?_
    refine lv_ifnonnullN hx hb dX11_openers_10 ?_
    refine lv_bipush (v := (-2)) hx hb dX11_openers_13 (by decide) ?_
    refine lv_goto (tgt := 23) hx hb dX11_openers_15 (by decide) ?_
    exact hw_iretR (v := (-2)) hx hb hr hlocks hQ rfl (⟨(-2), rfl, (by first | rfl | trivial | assumption | omega | (intros; first | rfl | assumption | omega | (exfalso; omega)))⟩) dX11_openers_23
  · refine lv_astore_n (lv' := [(2, .ref b1), (0, .ref h0), (1, .int p1)]) hx hb dX11_openers_8 rfl hl (by decide) rfl (fun ls hl => ?_)
    refine lv_aload_n hx hb dX11_openers_9 rfl (lv_at hl 0 rfl) ?_
    refine lv_ifnonnull (tgt := 18) hx hb dX11_openers_10 (by decide) ?_
    refine lv_aload_n hx hb dX11_openers_18 rfl (lv_at hl 1 rfl) ?_
    refine lv_aload_n hx hb dX11_openers_19 rfl (lv_at hl 0 rfl) ?_
    refine hw_cR (va_runV (As := [.ref b1]) (rest := []) ⟨hx, hb, hml, hown, hts⟩ (k_X11_keysFor l D G h0 b1 _ G0 k2) (cwV 1 hts gX11_openers_X11_keysFor rfl rfl rfl (by decide +kernel) ⟨Nat.le_of_ble_eq_true rfl, Nat.le_of_ble_eq_true rfl⟩) (hw_pV (hw_rc (q := (RX11, TX11, 14)) hK vx rfl) hH hK hST hS (by decide) (fun _ h => Or.inl h) trivial) rfl rfl hl.1 rfl (lv_room (Nat.le_of_ble_eq_true rfl)) dX11_openers_20 ⟨Nat.le_of_ble_eq_true rfl, Nat.le_of_ble_eq_true rfl⟩) (fun v hp => ?_)
    obtain ⟨x4, rfl⟩ := hp
    exact hw_iretR (v := x4) hx hb hr hlocks hQ rfl (⟨x4, rfl, (by first | rfl | trivial | assumption | omega | (intros; first | rfl | assumption | omega | (exfalso; omega)))⟩) dX11_openers_23

set_option maxHeartbeats 4000000 in
set_option maxRecDepth 100000 in
theorem k_X11_twins (l : Launch) (D : hw_D) (G : Nat → Nat) (h0 : Nat) (p1 : Int32) (sz : Nat) (rx : Nat → Nat) (pn_x pc_x ks_x sc_x : Int32) (rc : Nat → Nat) (kc_c lc_c wc_c dk_c : Int32) (G0 : G h0 = 1) (Rx : hw_RX G rx) (gsc_x : 0 ≤ sc_x.toInt ∧ sc_x.toInt ≤ 6) (Rc : hw_RC G rc) (gkc_c : 0 ≤ kc_c.toInt ∧ kc_c.toInt ≤ 7) (glc_c : 0 ≤ lc_c.toInt ∧ lc_c.toInt ≤ 7) (gwc_c : 0 ≤ wc_c.toInt ∧ wc_c.toInt ≤ 3) : Met l yX11_twins wsX11_twins ({ frames := 6, cells := 0, slots := 0, locals := 139 } : Room) (hw_PC D G [.ref h0, .int p1] sz (fun H => va_at D.1 vwCl (h0, .inr (10, hw_LX rx pn_x pc_x ks_x sc_x)) H ∧ va_at D.1 vwCl ((rx 0), .inr (1, hw_LC rc kc_c lc_c wc_c dk_c)) H)) (hw_QR (fun v => (v = .int (-3) ∧ (p1.toInt < -1 ∨ 20 < p1.toInt)) ∨ (∃ (r : Int32), v = .int r ∧ (-1 ≤ p1.toInt ∧ p1.toInt ≤ 20) ∧ (kc_c.toInt = 0 → p1.toInt = -1 → r.toInt = 0) ∧ (kc_c.toInt = 0 → p1.toInt ≠ -1 → r.toInt = -1)))) 0 0 (fun _ => False) := by
  refine hw_met (cc := cX11_twins) (maxL := 5) (ret := (some .int)) (plainFor_of_name (by decide)) rfl (Nat.le_of_ble_eq_true rfl) ?_
  intro p e s m args below meth c QQ ls hsz hx hb hml hr hts hown hlocks hnm hH hK hST hF hQ hl
  subst hsz
  have hS : va_S (hw_AW G [] s.heap.size) s.heap s.heap [] := va_S.rf
  obtain ⟨vx, vc⟩ := hF
  have hl : lv_has ls 5 [(0, .ref h0), (1, .int p1)] := hl
  have u_10 : ∀ w ∈ u_ws RX11 TX11 14, w.before args s = true := fun w hw => hts w ((by decide +kernel : ∀ w ∈ u_ws RX11 TX11 14, w ∈ wsX11_twins) w hw)
  have fg_10_10 : hw_FG s args m 10 10 0 := ⟨RX11, "WardWalkers", RX11, TX11, 14, u_10, hown, rfl, by decide, (hts (.fieldLink RX11 10 "WardWalkers" "country" "LWardWalkers$Country;") (by decide +kernel)), (fun _ h9 => h9)⟩
  have u_1 : ∀ w ∈ u_ws RX1 TX1 7, w.before args s = true := fun w hw => hts w ((by decide +kernel : ∀ w ∈ u_ws RX1 TX1 7, w ∈ wsX11_twins) w hw)
  have fg_234_1 : hw_FG s args m 234 1 1 := ⟨RX11, "WardWalkers$Country", RX1, TX1, 7, u_1, hown, rfl, by decide, (hts (.fieldLink RX11 234 "WardWalkers$Country" "keyCount" "I") (by decide +kernel)), (fun _ h9 => h9)⟩
  refine lv_iload_n hx hb dX11_twins_0 rfl (lv_at hl 1 rfl) ?_
  refine lv_iconst (v := (-1)) hx hb dX11_twins_1 (by decide) ?_
  refine lv_icmp_lt (tgt := 11) hx hb dX11_twins_2 (by decide) (fun c1 => ?_) (fun c1 => ?_)
  · have b2 : p1.toInt < (-1) := hw_ilt c1
    refine lv_bipush (v := (-3)) hx hb dX11_twins_11 (by decide) ?_
    exact hw_iretR (v := (-3)) hx hb hr hlocks hQ rfl (Or.inl ⟨rfl, (by first | rfl | trivial | assumption | omega | (intros; first | rfl | assumption | omega | (exfalso; omega)))⟩) dX11_twins_13
  · have b3 : (-1) ≤ p1.toInt := hw_inlt c1
    refine lv_iload_n hx hb dX11_twins_5 rfl (lv_at hl 1 rfl) ?_
    refine lv_bipush (v := 21) hx hb dX11_twins_6 (by decide) ?_
    refine lv_icmp_lt (tgt := 14) hx hb dX11_twins_8 (by decide) (fun c4 => ?_) (fun c4 => ?_)
    · have b5 : p1.toInt < 21 := hw_ilt c4
      refine lv_iconst (v := 0) hx hb dX11_twins_14 (by decide) ?_
      refine lv_istore_n (lv' := [(2, .int 0), (0, .ref h0), (1, .int p1)]) hx hb dX11_twins_15 rfl hl (by decide) rfl (fun ls hl => ?_)
      refine lv_iconst (v := 0) hx hb dX11_twins_16 (by decide) ?_
      refine lv_istore_n (lv' := [(3, .int 0), (2, .int 0), (0, .ref h0), (1, .int p1)]) hx hb dX11_twins_17 rfl hl (by decide) rfl (fun ls hl => ?_)
      have L18 : ∀ (n9 : Nat) (y3_6 : Int32) (y2_7 : Int32) (hm : (7 - y3_6.toInt).toNat < n9) (g8 : 0 ≤ y3_6.toInt ∧ y3_6.toInt ≤ 7) (inv18_0 : kc_c.toInt = 0 → y2_7.toInt = 0) (ls : Array Slot) (hl : lv_has ls 5 [(3, .int y3_6), (2, .int y2_7), (0, .ref h0), (1, .int p1)]), W p l e ({ frames := 6, cells := 0, slots := 0, locals := 139 } : Room) s m args below meth c s.heap [] 0 0 QQ (F0 m 18 ls []) := by
        intro n9
        induction n9 with
        | zero => intro y3_6 y2_7 hm; exact absurd hm (Nat.not_lt_zero _)
        | succ n9 ih18 =>
          intro y3_6 y2_7 hm g8 inv18_0 ls hl
          refine lv_iload_n hx hb dX11_twins_18 rfl (lv_at hl 0 rfl) ?_
          refine lv_aload_n hx hb dX11_twins_19 rfl (lv_at hl 2 rfl) ?_
          refine hw_get hx hb fg_10_10 hK vx rfl dX11_twins_20 ?_
          refine hw_get hx hb fg_234_1 hK vc rfl dX11_twins_23 ?_
          refine lv_icmp_ge (tgt := 84) hx hb dX11_twins_26 (by decide) (fun c10 => ?_) (fun c10 => ?_)
          · have b11 : kc_c.toInt ≤ y3_6.toInt := hw_ile c10
            refine lv_iload_n hx hb dX11_twins_84 rfl (lv_at hl 3 rfl) ?_
            refine lv_iconst (v := (-1)) hx hb dX11_twins_85 (by decide) ?_
            refine lv_icmp_ne (tgt := 93) hx hb dX11_twins_86 (by decide) (fun c12 => ?_) (fun c12 => ?_)
            · have b13 : p1.toInt ≠ (-1) := hw_ine c12
              refine lv_iconst (v := (-1)) hx hb dX11_twins_93 (by decide) ?_
              exact hw_iretR (v := (-1)) hx hb hr hlocks hQ rfl (Or.inr (⟨(-1), rfl, (by first | rfl | trivial | assumption | omega | (intros; first | rfl | assumption | omega | (exfalso; omega))), (by first | rfl | trivial | assumption | omega | (intros; first | rfl | assumption | omega | (exfalso; omega))), (by first | rfl | trivial | assumption | omega | (intros; first | rfl | assumption | omega | (exfalso; omega)))⟩)) dX11_twins_94
            · have b14 : p1.toInt = (-1) := hw_ieq c12
              refine lv_iload_n hx hb dX11_twins_89 rfl (lv_at hl 1 rfl) ?_
              refine lv_goto (tgt := 94) hx hb dX11_twins_90 (by decide) ?_
              exact hw_iretR (v := y2_7) hx hb hr hlocks hQ rfl (Or.inr (⟨y2_7, rfl, (by first | rfl | trivial | assumption | omega | (intros; first | rfl | assumption | omega | (exfalso; omega))), (by first | rfl | trivial | assumption | omega | (intros; first | rfl | assumption | omega | (exfalso; omega))), (by first | rfl | trivial | assumption | omega | (intros; first | rfl | assumption | omega | (exfalso; omega)))⟩)) dX11_twins_94
          · have b15 : y3_6.toInt < kc_c.toInt := hw_inle c10
            refine lv_iload_n hx hb dX11_twins_29 rfl (lv_at hl 0 rfl) ?_
            refine lv_iconst (v := 1) hx hb dX11_twins_30 (by decide) ?_
            refine lv_iadd hx hb dX11_twins_31 ?_
            refine lv_topi (fun x16 e17 => ?_)
            have t18 : x16.toInt = y3_6.toInt + 1 := by rw [e17]; exact hw_add rfl rfl (by omega) (by omega)
            refine lv_istore (lv' := [(4, .int x16), (3, .int y3_6), (2, .int y2_7), (0, .ref h0), (1, .int p1)]) hx hb dX11_twins_32 hl (by decide) rfl (fun ls hl => ?_)
            have L34 : ∀ (n22 : Nat) (y4_19 : Int32) (y2_20 : Int32) (hm : (7 - y4_19.toInt).toNat < n22) (g21 : 1 ≤ y4_19.toInt ∧ y4_19.toInt ≤ 7) (ls : Array Slot) (hl : lv_has ls 5 [(4, .int y4_19), (3, .int y3_6), (2, .int y2_20), (0, .ref h0), (1, .int p1)]), W p l e ({ frames := 6, cells := 0, slots := 0, locals := 139 } : Room) s m args below meth c s.heap [] 0 0 QQ (F0 m 34 ls []) := by
              intro n22
              induction n22 with
              | zero => intro y4_19 y2_20 hm; exact absurd hm (Nat.not_lt_zero _)
              | succ n22 ih34 =>
                intro y4_19 y2_20 hm g21 ls hl
                refine lv_iload hx hb dX11_twins_34 (lv_at hl 0 rfl) ?_
                refine lv_aload_n hx hb dX11_twins_36 rfl (lv_at hl 3 rfl) ?_
                refine hw_get hx hb fg_10_10 hK vx rfl dX11_twins_37 ?_
                refine hw_get hx hb fg_234_1 hK vc rfl dX11_twins_40 ?_
                refine lv_icmp_ge (tgt := 78) hx hb dX11_twins_43 (by decide) (fun c23 => ?_) (fun c23 => ?_)
                · have b24 : kc_c.toInt ≤ y4_19.toInt := hw_ile c23
                  obtain ⟨x25, e26⟩ : ∃ y : Int32, y = y3_6 + 1 := ⟨_, rfl⟩
                  refine lv_iinc (v := x25) (lv' := [(3, .int x25), (4, .int y4_19), (2, .int y2_20), (0, .ref h0), (1, .int p1)]) hx hb dX11_twins_78 hl (k := 1) rfl (by rw [e26]; rfl) (by decide) rfl (fun ls hl => ?_)
                  have t27 : x25.toInt = y3_6.toInt + 1 := by rw [e26]; exact hw_add rfl rfl (by omega) (by omega)
                  refine lv_goto (tgt := 18) hx hb dX11_twins_81 (by decide) ?_
                  exact ih18 x25 y2_20 (by first | omega | omega) ⟨by first | decide | omega, by first | decide | omega⟩ (by first | assumption | omega | decide | rfl | (intros; first | rfl | assumption | omega)) _ (lv_sub hl [0, 2, 3, 4] rfl)
                · have b28 : y4_19.toInt < kc_c.toInt := hw_inle c23
                  refine lv_aload_n hx hb dX11_twins_46 rfl (lv_at hl 3 rfl) ?_
                  refine lv_iload_n hx hb dX11_twins_47 rfl (lv_at hl 1 rfl) ?_
                  refine lv_iload hx hb dX11_twins_48 (lv_at hl 0 rfl) ?_
                  refine hw_cR (va_runV (As := [.int y3_6, .int y4_19]) (rest := []) ⟨hx, hb, hml, hown, hts⟩ (k_X11_areTwins l D G h0 y3_6 y4_19 _ G0) (cwV 2 hts gX11_twins_X11_areTwins rfl rfl rfl (by decide +kernel) ⟨Nat.le_of_ble_eq_true rfl, Nat.le_of_ble_eq_true rfl⟩) (hw_pV (hw_rc (q := (RX11, TX11, 14)) hK vx rfl) hH hK hST hS (by decide) (fun _ h => Or.inl h) trivial) rfl rfl hl.1 rfl (lv_room (Nat.le_of_ble_eq_true rfl)) dX11_twins_50 ⟨Nat.le_of_ble_eq_true rfl, Nat.le_of_ble_eq_true rfl⟩) (fun v hp => ?_)
                  rcases hp with rfl | rfl
                  · refine lv_if_eq (tgt := 72) hx hb dX11_twins_53 (by decide) (fun c29 => ?_) (fun c29 => ?_)
                    · exact absurd c29 (by decide)
                    · refine lv_iload_n hx hb dX11_twins_56 rfl (lv_at hl 2 rfl) ?_
                      refine lv_iload_n hx hb dX11_twins_57 rfl (lv_at hl 4 rfl) ?_
                      refine lv_icmp_ne (tgt := 69) hx hb dX11_twins_58 (by decide) (fun c30 => ?_) (fun c30 => ?_)
                      · have b31 : y2_20.toInt ≠ p1.toInt := hw_ine c30
                        obtain ⟨x32, e33⟩ : ∃ y : Int32, y = y2_20 + 1 := ⟨_, rfl⟩
                        refine lv_iinc (v := x32) (lv' := [(2, .int x32), (4, .int y4_19), (3, .int y3_6), (0, .ref h0), (1, .int p1)]) hx hb dX11_twins_69 hl (k := 2) rfl (by rw [e33]; rfl) (by decide) rfl (fun ls hl => ?_)
                        obtain ⟨x34, e35⟩ : ∃ y : Int32, y = y4_19 + 1 := ⟨_, rfl⟩
                        refine lv_iinc (v := x34) (lv' := [(4, .int x34), (2, .int x32), (3, .int y3_6), (0, .ref h0), (1, .int p1)]) hx hb dX11_twins_72 hl (k := 1) rfl (by rw [e35]; rfl) (by decide) rfl (fun ls hl => ?_)
                        have t36 : x34.toInt = y4_19.toInt + 1 := by rw [e35]; exact hw_add rfl rfl (by omega) (by omega)
                        refine lv_goto (tgt := 34) hx hb dX11_twins_75 (by decide) ?_
                        exact ih34 x34 x32 (by first | omega | omega) ⟨by first | decide | omega, by first | decide | omega⟩ _ (lv_sub hl [0, 2, 1, 3, 4] rfl)
                      · have b37 : y2_20.toInt = p1.toInt := hw_ieq c30
                        refine lv_bipush (v := 10) hx hb dX11_twins_61 (by decide) ?_
                        refine lv_iload_n hx hb dX11_twins_63 rfl (lv_at hl 1 rfl) ?_
                        refine lv_imul hx hb dX11_twins_64 ?_
                        refine lv_topi (fun x38 e39 => ?_)
                        have t40 : x38.toInt = 10 * y3_6.toInt := by rw [e39]; exact hw_mul rfl rfl (by omega) (by omega)
                        refine lv_iload hx hb dX11_twins_65 (lv_at hl 0 rfl) ?_
                        refine lv_iadd hx hb dX11_twins_67 ?_
                        refine lv_topi (fun x41 e42 => ?_)
                        have t43 : x41.toInt = x38.toInt + y4_19.toInt := by rw [e42]; exact hw_add rfl rfl (by omega) (by omega)
                        exact hw_iretR (v := x41) hx hb hr hlocks hQ rfl (Or.inr (⟨x41, rfl, (by first | rfl | trivial | assumption | omega | (intros; first | rfl | assumption | omega | (exfalso; omega))), (by first | rfl | trivial | assumption | omega | (intros; first | rfl | assumption | omega | (exfalso; omega))), (by first | rfl | trivial | assumption | omega | (intros; first | rfl | assumption | omega | (exfalso; omega)))⟩)) dX11_twins_68
                  · refine lv_if_eq (tgt := 72) hx hb dX11_twins_53 (by decide) (fun c44 => ?_) (fun c44 => ?_)
                    · obtain ⟨x45, e46⟩ : ∃ y : Int32, y = y4_19 + 1 := ⟨_, rfl⟩
                      refine lv_iinc (v := x45) (lv' := [(4, .int x45), (3, .int y3_6), (2, .int y2_20), (0, .ref h0), (1, .int p1)]) hx hb dX11_twins_72 hl (k := 0) rfl (by rw [e46]; rfl) (by decide) rfl (fun ls hl => ?_)
                      have t47 : x45.toInt = y4_19.toInt + 1 := by rw [e46]; exact hw_add rfl rfl (by omega) (by omega)
                      refine lv_goto (tgt := 34) hx hb dX11_twins_75 (by decide) ?_
                      exact ih34 x45 y2_20 (by first | omega | omega) ⟨by first | decide | omega, by first | decide | omega⟩ _ (lv_sub hl [0, 1, 2, 3, 4] rfl)
                    · exact absurd c44 (by decide)
            exact L34 _ x16 y2_7 (Nat.lt_succ_self _) ⟨by first | decide | omega, by first | decide | omega⟩ _ (lv_sub hl [0, 1, 2, 3, 4] rfl)
      exact L18 _ 0 0 (Nat.lt_succ_self _) ⟨by first | decide | omega, by first | decide | omega⟩ (by first | assumption | omega | decide | rfl | (intros; first | rfl | assumption | omega)) _ (lv_sub hl [0, 1, 2, 3] rfl)
    · have b48 : 21 ≤ p1.toInt := hw_inlt c4
      refine lv_bipush (v := (-3)) hx hb dX11_twins_11 (by decide) ?_
      exact hw_iretR (v := (-3)) hx hb hr hlocks hQ rfl (Or.inl ⟨rfl, (by first | rfl | trivial | assumption | omega | (intros; first | rfl | assumption | omega | (exfalso; omega)))⟩) dX11_twins_13

set_option maxHeartbeats 4000000 in
set_option maxRecDepth 100000 in
theorem k_X11_seen (l : Launch) (D : hw_D) (G : Nat → Nat) (h0 : Nat) (p1 : Int32) (p2 : Int32) (sz : Nat) (rx : Nat → Nat) (pn_x pc_x ks_x sc_x : Int32) (rc : Nat → Nat) (kc_c lc_c wc_c dk_c : Int32) (G0 : G h0 = 1) (Rx : hw_RX G rx) (gsc_x : 0 ≤ sc_x.toInt ∧ sc_x.toInt ≤ 6) (Rc : hw_RC G rc) (gkc_c : 0 ≤ kc_c.toInt ∧ kc_c.toInt ≤ 7) (glc_c : 0 ≤ lc_c.toInt ∧ lc_c.toInt ≤ 7) (gwc_c : 0 ≤ wc_c.toInt ∧ wc_c.toInt ≤ 3) : Met l yX11_seen wsX11_seen ({ frames := 1, cells := 0, slots := 0, locals := 21 } : Room) (hw_PC D G [.ref h0, .int p1, .int p2] sz (fun H => va_at D.1 vwCl (h0, .inr (10, hw_LX rx pn_x pc_x ks_x sc_x)) H ∧ va_at D.1 vwCl ((rx 0), .inr (1, hw_LC rc kc_c lc_c wc_c dk_c)) H)) (hw_QM (fun v H => ∃ (r : Int32) (sc_x2 : Int32), v = some (.int r) ∧ hw_HT D G H ∧ va_at D.1 vwCl (h0, .inr (10, hw_LX rx pn_x pc_x ks_x sc_x2)) H ∧ va_at D.1 vwCl ((rx 0), .inr (1, hw_LC rc kc_c lc_c wc_c dk_c)) H ∧ (0 ≤ sc_x2.toInt ∧ sc_x2.toInt ≤ 6) ∧ (lc_c.toInt = 0 → r.toInt = -2)) (hw_AW G [1, 30, 31] sz)) 0 0 (hw_AW G [1, 30, 31] sz) := by
  refine hw_met (cc := cX11_seen) (maxL := 3) (ret := (some .int)) (plainFor_of_name (by decide)) rfl (Nat.le_of_ble_eq_true rfl) ?_
  intro p e s m args below meth c QQ ls hsz hx hb hml hr hts hown hlocks hnm hH hK hST hF hQ hl
  subst hsz
  have hS : va_S (hw_AW G [1, 30, 31] s.heap.size) s.heap s.heap [] := va_S.rf
  obtain ⟨vx, vc⟩ := hF
  have hl : lv_has ls 3 [(0, .ref h0), (1, .int p1), (2, .int p2)] := hl
  have u_10 : ∀ w ∈ u_ws RX11 TX11 14, w.before args s = true := fun w hw => hts w ((by decide +kernel : ∀ w ∈ u_ws RX11 TX11 14, w ∈ wsX11_seen) w hw)
  have fg_10_10 : hw_FG s args m 10 10 0 := ⟨RX11, "WardWalkers", RX11, TX11, 14, u_10, hown, rfl, by decide, (hts (.fieldLink RX11 10 "WardWalkers" "country" "LWardWalkers$Country;") (by decide +kernel)), (fun _ h9 => h9)⟩
  have fg_88_10 : hw_FG s args m 88 10 11 := ⟨RX11, "WardWalkers", RX11, TX11, 14, u_10, hown, rfl, by decide, (hts (.fieldLink RX11 88 "WardWalkers" "seenCount" "I") (by decide +kernel)), (fun _ h9 => h9)⟩
  have fg_41_10 : hw_FG s args m 41 10 9 := ⟨RX11, "WardWalkers", RX11, TX11, 14, u_10, hown, rfl, by decide, (hts (.fieldLink RX11 41 "WardWalkers" "seenLocks" "[I") (by decide +kernel)), (fun _ h9 => h9)⟩
  have fg_45_10 : hw_FG s args m 45 10 10 := ⟨RX11, "WardWalkers", RX11, TX11, 14, u_10, hown, rfl, by decide, (hts (.fieldLink RX11 45 "WardWalkers" "seenWent" "[I") (by decide +kernel)), (fun _ h9 => h9)⟩
  have fp_88_10 : hw_FP s args m 88 10 11 false .int := ⟨RX11, "WardWalkers", RX11, TX11, 14, tyX11, u_10, hown, rfl, by decide, (hts (.fieldLink RX11 88 "WardWalkers" "seenCount" "I") (by decide +kernel)), (fun _ h9 => h9), tyX11_ok, nmX11, rfl, (fun h => by cases h), by decide +kernel⟩
  refine lv_aload_n hx hb dX11_seen_0 rfl (lv_at hl 0 rfl) ?_
  refine hw_get hx hb fg_10_10 hK vx rfl dX11_seen_1 ?_
  refine lv_iload_n hx hb dX11_seen_4 rfl (lv_at hl 1 rfl) ?_
  refine hw_cR (va_runV (As := [.int p1]) (rest := []) ⟨hx, hb, hml, hown, hts⟩ (k_X1_lockAt l D G (rx 0) p1 _ rc kc_c lc_c wc_c dk_c (hw_RX_0 Rx) Rc ⟨by first | decide | omega, by first | decide | omega⟩ ⟨by first | decide | omega, by first | decide | omega⟩ ⟨by first | decide | omega, by first | decide | omega⟩) (cwV 1 hts gX11_seen_X1_lockAt rfl rfl rfl (by decide +kernel) ⟨Nat.le_of_ble_eq_true rfl, Nat.le_of_ble_eq_true rfl⟩) (hw_pV (hw_rc (q := (RX1, TX1, 7)) hK vc rfl) hH hK hST hS (by decide) (fun _ h => Or.inl h) vc) rfl rfl hl.1 rfl (lv_room (Nat.le_of_ble_eq_true rfl)) dX11_seen_5 ⟨Nat.le_of_ble_eq_true rfl, Nat.le_of_ble_eq_true rfl⟩) (fun v hp => ?_)
  rcases hp with rfl | ⟨b1, rfl, k2, q3⟩
  · refine lv_ifnonnullN hx hb dX11_seen_8 ?_
    refine lv_bipush (v := (-2)) hx hb dX11_seen_11 (by decide) ?_
    exact hw_iretM (v := (-2)) hx hb hr hlocks hQ hS rfl (⟨(-2), sc_x, rfl, hH, vx, vc, ⟨by first | decide | omega, by first | decide | omega⟩, (by first | rfl | trivial | assumption | omega | (intros; first | rfl | assumption | omega | (exfalso; omega)))⟩) dX11_seen_13
  · refine lv_ifnonnull (tgt := 14) hx hb dX11_seen_8 (by decide) ?_
    refine lv_iload_n hx hb dX11_seen_14 rfl (lv_at hl 2 rfl) ?_
    refine lv_if_lt (tgt := 23) hx hb dX11_seen_15 (by decide) (fun c4 => ?_) (fun c4 => ?_)
    · have b5 : p2.toInt < 0 := hw_ilt c4
      refine lv_bipush (v := (-3)) hx hb dX11_seen_23 (by decide) ?_
      exact hw_iretM (v := (-3)) hx hb hr hlocks hQ hS rfl (⟨(-3), sc_x, rfl, hH, vx, vc, ⟨by first | decide | omega, by first | decide | omega⟩, (by first | rfl | trivial | assumption | omega | (intros; first | rfl | assumption | omega | (exfalso; omega)))⟩) dX11_seen_25
    · have b6 : 0 ≤ p2.toInt := hw_inlt c4
      refine lv_iload_n hx hb dX11_seen_18 rfl (lv_at hl 2 rfl) ?_
      refine lv_iconst (v := 1) hx hb dX11_seen_19 (by decide) ?_
      refine lv_icmp_le (tgt := 26) hx hb dX11_seen_20 (by decide) (fun c7 => ?_) (fun c7 => ?_)
      · have b8 : p2.toInt ≤ 1 := hw_ile c7
        refine lv_aload_n hx hb dX11_seen_26 rfl (lv_at hl 0 rfl) ?_
        refine hw_get hx hb fg_88_10 hK vx rfl dX11_seen_27 ?_
        refine lv_bipush (v := 6) hx hb dX11_seen_30 (by decide) ?_
        refine lv_icmp_lt (tgt := 38) hx hb dX11_seen_32 (by decide) (fun c9 => ?_) (fun c9 => ?_)
        · have b10 : sc_x.toInt < 6 := hw_ilt c9
          refine lv_aload_n hx hb dX11_seen_38 rfl (lv_at hl 0 rfl) ?_
          refine hw_get hx hb fg_41_10 hK vx rfl dX11_seen_39 ?_
          refine lv_aload_n hx hb dX11_seen_42 rfl (lv_at hl 0 rfl) ?_
          refine hw_get hx hb fg_88_10 hK vx rfl dX11_seen_43 ?_
          refine lv_iload_n hx hb dX11_seen_46 rfl (lv_at hl 1 rfl) ?_
          obtain ⟨f11, v12⟩ := hH.a30 (hw_RX_9 Rx)
          refine hw_iast hx hb hK hH v12 (hw_in (by omega) (by omega)) (fun _ => by rw [(hw_RX_9 Rx)]; exact ⟨_, rfl⟩) hS (hw_AWi (hw_RX_9 Rx) (by decide)) dX11_seen_47 (fun H locs hH v12 oq hz hS => ?_)
          have vx := va_at.kept vx (oq _ (hw_ne G0 (hw_RX_9 Rx) (by decide)))
          have vc := va_at.kept vc (oq _ (hw_ne (hw_RX_0 Rx) (hw_RX_9 Rx) (by decide)))
          refine lv_aload_n hx hb dX11_seen_48 rfl (lv_at hl 0 rfl) ?_
          refine hw_get hx hb fg_45_10 hK vx rfl dX11_seen_49 ?_
          refine lv_aload_n hx hb dX11_seen_52 rfl (lv_at hl 0 rfl) ?_
          refine hw_get hx hb fg_88_10 hK vx rfl dX11_seen_53 ?_
          refine lv_iload_n hx hb dX11_seen_56 rfl (lv_at hl 2 rfl) ?_
          obtain ⟨f14, v15⟩ := hH.a31 (hw_RX_10 Rx)
          refine hw_iast hx hb hK hH v15 (hw_in (by omega) (by omega)) (fun _ => by rw [(hw_RX_10 Rx)]; exact ⟨_, rfl⟩) hS (hw_AWi (hw_RX_10 Rx) (by decide)) dX11_seen_57 (fun H locs hH v15 oq hz hS => ?_)
          have vx := va_at.kept vx (oq _ (hw_ne G0 (hw_RX_10 Rx) (by decide)))
          have vc := va_at.kept vc (oq _ (hw_ne (hw_RX_0 Rx) (hw_RX_10 Rx) (by decide)))
          refine lv_aload_n hx hb dX11_seen_58 rfl (lv_at hl 0 rfl) ?_
          refine lv_dup hx hb dX11_seen_59 rfl ?_
          refine hw_get hx hb fg_88_10 hK vx rfl dX11_seen_60 ?_
          refine lv_iconst (v := 1) hx hb dX11_seen_63 (by decide) ?_
          refine lv_iadd hx hb dX11_seen_64 ?_
          refine lv_topi (fun x17 e18 => ?_)
          have t19 : x17.toInt = sc_x.toInt + 1 := by rw [e18]; exact hw_add rfl rfl (by omega) (by omega)
          refine hw_put (v := .int x17) (fs' := hw_LX rx pn_x pc_x ks_x x17) hx hb fp_88_10 hK hH vx (Nat.le_of_ble_eq_true rfl) rfl rfl rfl (fun _ => by rw [G0]; exact ⟨rx, pn_x, pc_x, ks_x, x17, rfl, Rx, ⟨by first | decide | omega, by first | decide | omega⟩⟩) hS (hw_AWi G0 (by decide)) dX11_seen_65 (fun H locs hH vx oq hz hS => ?_)
          have vc := va_at.kept vc (oq _ (hw_ne (hw_RX_0 Rx) G0 (by decide)))
          refine lv_aload_n hx hb dX11_seen_68 rfl (lv_at hl 0 rfl) ?_
          refine hw_get hx hb fg_88_10 hK vx rfl dX11_seen_69 ?_
          exact hw_iretM (v := x17) hx hb hr hlocks hQ hS rfl (⟨x17, x17, rfl, hH, vx, vc, ⟨by first | decide | omega, by first | decide | omega⟩, (by first | rfl | trivial | assumption | omega | (intros; first | rfl | assumption | omega | (exfalso; omega)))⟩) dX11_seen_72
        · have b20 : 6 ≤ sc_x.toInt := hw_inlt c9
          refine lv_bipush (v := (-5)) hx hb dX11_seen_35 (by decide) ?_
          exact hw_iretM (v := (-5)) hx hb hr hlocks hQ hS rfl (⟨(-5), sc_x, rfl, hH, vx, vc, ⟨by first | decide | omega, by first | decide | omega⟩, (by first | rfl | trivial | assumption | omega | (intros; first | rfl | assumption | omega | (exfalso; omega)))⟩) dX11_seen_37
      · have b21 : 1 < p2.toInt := hw_inle c7
        refine lv_bipush (v := (-3)) hx hb dX11_seen_23 (by decide) ?_
        exact hw_iretM (v := (-3)) hx hb hr hlocks hQ hS rfl (⟨(-3), sc_x, rfl, hH, vx, vc, ⟨by first | decide | omega, by first | decide | omega⟩, (by first | rfl | trivial | assumption | omega | (intros; first | rfl | assumption | omega | (exfalso; omega)))⟩) dX11_seen_25

set_option maxHeartbeats 4000000 in
set_option maxRecDepth 100000 in
theorem k_X11_forget (l : Launch) (D : hw_D) (G : Nat → Nat) (h0 : Nat) (sz : Nat) (rx : Nat → Nat) (pn_x pc_x ks_x sc_x : Int32) (G0 : G h0 = 1) (Rx : hw_RX G rx) (gsc_x : 0 ≤ sc_x.toInt ∧ sc_x.toInt ≤ 6) : Met l yX11_forget wsX11_forget ({ frames := 0, cells := 0, slots := 0, locals := 0 } : Room) (hw_PC D G [.ref h0] sz (fun H => va_at D.1 vwCl (h0, .inr (10, hw_LX rx pn_x pc_x ks_x sc_x)) H)) (hw_QM (fun v H => ∃ (r : Int32) (sc_x2 : Int32), v = some (.int r) ∧ hw_HT D G H ∧ va_at D.1 vwCl (h0, .inr (10, hw_LX rx pn_x pc_x ks_x sc_x2)) H ∧ (0 ≤ sc_x2.toInt ∧ sc_x2.toInt ≤ 6) ∧ r = sc_x) (hw_AW G [1] sz)) 0 0 (hw_AW G [1] sz) := by
  refine hw_met (cc := cX11_forget) (maxL := 2) (ret := (some .int)) (plainFor_of_name (by decide)) rfl (Nat.le_of_ble_eq_true rfl) ?_
  intro p e s m args below meth c QQ ls hsz hx hb hml hr hts hown hlocks hnm hH hK hST hF hQ hl
  subst hsz
  have hS : va_S (hw_AW G [1] s.heap.size) s.heap s.heap [] := va_S.rf
  have vx := hF
  have hl : lv_has ls 2 [(0, .ref h0)] := hl
  have u_10 : ∀ w ∈ u_ws RX11 TX11 14, w.before args s = true := fun w hw => hts w ((by decide +kernel : ∀ w ∈ u_ws RX11 TX11 14, w ∈ wsX11_forget) w hw)
  have fg_88_10 : hw_FG s args m 88 10 11 := ⟨RX11, "WardWalkers", RX11, TX11, 14, u_10, hown, rfl, by decide, (hts (.fieldLink RX11 88 "WardWalkers" "seenCount" "I") (by decide +kernel)), (fun _ h9 => h9)⟩
  have fp_88_10 : hw_FP s args m 88 10 11 false .int := ⟨RX11, "WardWalkers", RX11, TX11, 14, tyX11, u_10, hown, rfl, by decide, (hts (.fieldLink RX11 88 "WardWalkers" "seenCount" "I") (by decide +kernel)), (fun _ h9 => h9), tyX11_ok, nmX11, rfl, (fun h => by cases h), by decide +kernel⟩
  refine lv_aload_n hx hb dX11_forget_0 rfl (lv_at hl 0 rfl) ?_
  refine hw_get hx hb fg_88_10 hK vx rfl dX11_forget_1 ?_
  refine lv_istore_n (lv' := [(1, .int sc_x), (0, .ref h0)]) hx hb dX11_forget_4 rfl hl (by decide) rfl (fun ls hl => ?_)
  refine lv_aload_n hx hb dX11_forget_5 rfl (lv_at hl 1 rfl) ?_
  refine lv_iconst (v := 0) hx hb dX11_forget_6 (by decide) ?_
  refine hw_put (v := .int 0) (fs' := hw_LX rx pn_x pc_x ks_x 0) hx hb fp_88_10 hK hH vx (Nat.le_of_ble_eq_true rfl) rfl rfl rfl (fun _ => by rw [G0]; exact ⟨rx, pn_x, pc_x, ks_x, 0, rfl, Rx, ⟨by first | decide | omega, by first | decide | omega⟩⟩) hS (hw_AWi G0 (by decide)) dX11_forget_7 (fun H locs hH vx oq hz hS => ?_)
  refine lv_iload_n hx hb dX11_forget_10 rfl (lv_at hl 0 rfl) ?_
  exact hw_iretM (v := sc_x) hx hb hr hlocks hQ hS rfl (⟨sc_x, 0, rfl, hH, vx, ⟨by first | decide | omega, by first | decide | omega⟩, (by first | rfl | trivial | assumption | omega | (intros; first | rfl | assumption | omega | (exfalso; omega)))⟩) dX11_forget_11

set_option maxHeartbeats 4000000 in
set_option maxRecDepth 100000 in
theorem k_X11_how (l : Launch) (D : hw_D) (G : Nat → Nat) (h0 : Nat) (p1 : Int32) (sz : Nat) (rx : Nat → Nat) (pn_x pc_x ks_x sc_x : Int32) (rc : Nat → Nat) (kc_c lc_c wc_c dk_c : Int32) (G0 : G h0 = 1) (Rx : hw_RX G rx) (gsc_x : 0 ≤ sc_x.toInt ∧ sc_x.toInt ≤ 6) (Rc : hw_RC G rc) (gkc_c : 0 ≤ kc_c.toInt ∧ kc_c.toInt ≤ 7) (glc_c : 0 ≤ lc_c.toInt ∧ lc_c.toInt ≤ 7) (gwc_c : 0 ≤ wc_c.toInt ∧ wc_c.toInt ≤ 3) : Met l yX11_how wsX11_how ({ frames := 5, cells := 0, slots := 0, locals := 113 } : Room) (hw_PC D G [.ref h0, .int p1] sz (fun H => va_at D.1 vwCl (h0, .inr (10, hw_LX rx pn_x pc_x ks_x sc_x)) H ∧ va_at D.1 vwCl ((rx 0), .inr (1, hw_LC rc kc_c lc_c wc_c dk_c)) H)) (hw_QR (fun v => ∃ (r : Int32), v = .int r ∧ (kc_c.toInt = 0 → r.toInt = -2))) 0 0 (fun _ => False) := by
  refine hw_met (cc := cX11_how) (maxL := 5) (ret := (some .int)) (plainFor_of_name (by decide)) rfl (Nat.le_of_ble_eq_true rfl) ?_
  intro p e s m args below meth c QQ ls hsz hx hb hml hr hts hown hlocks hnm hH hK hST hF hQ hl
  subst hsz
  have hS : va_S (hw_AW G [] s.heap.size) s.heap s.heap [] := va_S.rf
  obtain ⟨vx, vc⟩ := hF
  have hl : lv_has ls 5 [(0, .ref h0), (1, .int p1)] := hl
  have u_10 : ∀ w ∈ u_ws RX11 TX11 14, w.before args s = true := fun w hw => hts w ((by decide +kernel : ∀ w ∈ u_ws RX11 TX11 14, w ∈ wsX11_how) w hw)
  have fg_10_10 : hw_FG s args m 10 10 0 := ⟨RX11, "WardWalkers", RX11, TX11, 14, u_10, hown, rfl, by decide, (hts (.fieldLink RX11 10 "WardWalkers" "country" "LWardWalkers$Country;") (by decide +kernel)), (fun _ h9 => h9)⟩
  refine lv_aload_n hx hb dX11_how_0 rfl (lv_at hl 0 rfl) ?_
  refine hw_get hx hb fg_10_10 hK vx rfl dX11_how_1 ?_
  refine lv_iload_n hx hb dX11_how_4 rfl (lv_at hl 1 rfl) ?_
  refine hw_cR (va_runV (As := [.int p1]) (rest := []) ⟨hx, hb, hml, hown, hts⟩ (k_X1_keyAt l D G (rx 0) p1 _ rc kc_c lc_c wc_c dk_c (hw_RX_0 Rx) Rc ⟨by first | decide | omega, by first | decide | omega⟩ ⟨by first | decide | omega, by first | decide | omega⟩ ⟨by first | decide | omega, by first | decide | omega⟩) (cwV 1 hts gX11_how_X1_keyAt rfl rfl rfl (by decide +kernel) ⟨Nat.le_of_ble_eq_true rfl, Nat.le_of_ble_eq_true rfl⟩) (hw_pV (hw_rc (q := (RX1, TX1, 7)) hK vc rfl) hH hK hST hS (by decide) (fun _ h => Or.inl h) vc) rfl rfl hl.1 rfl (lv_room (Nat.le_of_ble_eq_true rfl)) dX11_how_5 ⟨Nat.le_of_ble_eq_true rfl, Nat.le_of_ble_eq_true rfl⟩) (fun v hp => ?_)
  rcases hp with rfl | ⟨b1, rfl, k2, q3⟩
  · refine lv_astore_nN (lv' := [(2, .null), (0, .ref h0), (1, .int p1)]) hx hb dX11_how_8 rfl hl (by decide) rfl (fun ls hl => ?_)
    refine lv_aload_nN hx hb dX11_how_9 rfl (lv_at hl 0 rfl) ?_
    refine lv_ifnonnullN hx hb dX11_how_10 ?_
    refine lv_bipush (v := (-2)) hx hb dX11_how_13 (by decide) ?_
    exact hw_iretR (v := (-2)) hx hb hr hlocks hQ rfl (⟨(-2), rfl, (by first | rfl | trivial | assumption | omega | (intros; first | rfl | assumption | omega | (exfalso; omega)))⟩) dX11_how_15
  · refine lv_astore_n (lv' := [(2, .ref b1), (0, .ref h0), (1, .int p1)]) hx hb dX11_how_8 rfl hl (by decide) rfl (fun ls hl => ?_)
    refine lv_aload_n hx hb dX11_how_9 rfl (lv_at hl 0 rfl) ?_
    refine lv_ifnonnull (tgt := 16) hx hb dX11_how_10 (by decide) ?_
    refine lv_iconst (v := 0) hx hb dX11_how_16 (by decide) ?_
    refine lv_istore_n (lv' := [(3, .int 0), (2, .ref b1), (0, .ref h0), (1, .int p1)]) hx hb dX11_how_17 rfl hl (by decide) rfl (fun ls hl => ?_)
    refine lv_iconst (v := 0) hx hb dX11_how_18 (by decide) ?_
    refine lv_istore (lv' := [(4, .int 0), (3, .int 0), (2, .ref b1), (0, .ref h0), (1, .int p1)]) hx hb dX11_how_19 hl (by decide) rfl (fun ls hl => ?_)
    have L21 : ∀ (n7 : Nat) (y4_4 : Int32) (y3_5 : Int32) (hm : (9 - y4_4.toInt).toNat < n7) (g6 : 0 ≤ y4_4.toInt ∧ y4_4.toInt ≤ 9) (ls : Array Slot) (hl : lv_has ls 5 [(4, .int y4_4), (3, .int y3_5), (2, .ref b1), (0, .ref h0), (1, .int p1)]), W p l e ({ frames := 5, cells := 0, slots := 0, locals := 113 } : Room) s m args below meth c s.heap [] 0 0 QQ (F0 m 21 ls []) := by
      intro n7
      induction n7 with
      | zero => intro y4_4 y3_5 hm; exact absurd hm (Nat.not_lt_zero _)
      | succ n7 ih21 =>
        intro y4_4 y3_5 hm g6 ls hl
        refine lv_iload hx hb dX11_how_21 (lv_at hl 0 rfl) ?_
        refine lv_bipush (v := 9) hx hb dX11_how_23 (by decide) ?_
        refine lv_icmp_ge (tgt := 51) hx hb dX11_how_25 (by decide) (fun c8 => ?_) (fun c8 => ?_)
        · have b9 : 9 ≤ y4_4.toInt := hw_ile c8
          refine lv_iload_n hx hb dX11_how_51 rfl (lv_at hl 1 rfl) ?_
          exact hw_iretR (v := y3_5) hx hb hr hlocks hQ rfl (⟨y3_5, rfl, (by first | rfl | trivial | assumption | omega | (intros; first | rfl | assumption | omega | (exfalso; omega)))⟩) dX11_how_52
        · have b10 : y4_4.toInt < 9 := hw_inle c8
          refine lv_aload_n hx hb dX11_how_28 rfl (lv_at hl 3 rfl) ?_
          refine lv_aload_n hx hb dX11_how_29 rfl (lv_at hl 2 rfl) ?_
          refine lv_iload hx hb dX11_how_30 (lv_at hl 0 rfl) ?_
          refine hw_cR (va_runV (As := [.ref b1, .int y4_4]) (rest := []) ⟨hx, hb, hml, hown, hts⟩ (k_X11_isKeyAsSeen l D G h0 b1 y4_4 _ G0 k2) (cwV 2 hts gX11_how_X11_isKeyAsSeen rfl rfl rfl (by decide +kernel) ⟨Nat.le_of_ble_eq_true rfl, Nat.le_of_ble_eq_true rfl⟩) (hw_pV (hw_rc (q := (RX11, TX11, 14)) hK vx rfl) hH hK hST hS (by decide) (fun _ h => Or.inl h) trivial) rfl rfl hl.1 rfl (lv_room (Nat.le_of_ble_eq_true rfl)) dX11_how_32 ⟨Nat.le_of_ble_eq_true rfl, Nat.le_of_ble_eq_true rfl⟩) (fun v hp => ?_)
          rcases hp with rfl | rfl
          · refine lv_if_eq (tgt := 45) hx hb dX11_how_35 (by decide) (fun c11 => ?_) (fun c11 => ?_)
            · exact absurd c11 (by decide)
            · refine lv_iload_n hx hb dX11_how_38 rfl (lv_at hl 1 rfl) ?_
              refine lv_iconst (v := 1) hx hb dX11_how_39 (by decide) ?_
              refine lv_iload hx hb dX11_how_40 (lv_at hl 0 rfl) ?_
              refine lv_ishl hx hb dX11_how_42 ?_
              refine lv_topi (fun x12 e13 => ?_)
              have t14 : 1 ≤ x12.toInt ∧ x12.toInt ≤ 256 := by rw [e13]; exact hw_sh1b 8 (by decide) (by first | decide | omega) (by first | decide | omega)
              refine lv_ior hx hb dX11_how_43 ?_
              refine lv_topi (fun x15 e16 => ?_)
              refine lv_istore_n (lv' := [(3, .int x15), (4, .int y4_4), (2, .ref b1), (0, .ref h0), (1, .int p1)]) hx hb dX11_how_44 rfl hl (by decide) rfl (fun ls hl => ?_)
              obtain ⟨x17, e18⟩ : ∃ y : Int32, y = y4_4 + 1 := ⟨_, rfl⟩
              refine lv_iinc (v := x17) (lv' := [(4, .int x17), (3, .int x15), (2, .ref b1), (0, .ref h0), (1, .int p1)]) hx hb dX11_how_45 hl (k := 1) rfl (by rw [e18]; rfl) (by decide) rfl (fun ls hl => ?_)
              have t19 : x17.toInt = y4_4.toInt + 1 := by rw [e18]; exact hw_add rfl rfl (by omega) (by omega)
              refine lv_goto (tgt := 21) hx hb dX11_how_48 (by decide) ?_
              exact ih21 x17 x15 (by first | omega | omega) ⟨by first | decide | omega, by first | decide | omega⟩ _ (lv_sub hl [0, 1, 2, 3, 4] rfl)
          · refine lv_if_eq (tgt := 45) hx hb dX11_how_35 (by decide) (fun c20 => ?_) (fun c20 => ?_)
            · obtain ⟨x21, e22⟩ : ∃ y : Int32, y = y4_4 + 1 := ⟨_, rfl⟩
              refine lv_iinc (v := x21) (lv' := [(4, .int x21), (3, .int y3_5), (2, .ref b1), (0, .ref h0), (1, .int p1)]) hx hb dX11_how_45 hl (k := 0) rfl (by rw [e22]; rfl) (by decide) rfl (fun ls hl => ?_)
              have t23 : x21.toInt = y4_4.toInt + 1 := by rw [e22]; exact hw_add rfl rfl (by omega) (by omega)
              refine lv_goto (tgt := 21) hx hb dX11_how_48 (by decide) ?_
              exact ih21 x21 y3_5 (by first | omega | omega) ⟨by first | decide | omega, by first | decide | omega⟩ _ (lv_sub hl [0, 1, 2, 3, 4] rfl)
            · exact absurd c20 (by decide)
    exact L21 _ 0 0 (Nat.lt_succ_self _) ⟨by first | decide | omega, by first | decide | omega⟩ _ (lv_sub hl [0, 1, 2, 3, 4] rfl)
