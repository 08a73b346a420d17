set_option maxHeartbeats 4000000 in
set_option maxRecDepth 100000 in
theorem k_J6_bitCount_0f7a4 (l : Launch) (D : hw_D) (G : Nat → Nat) (p1 : Int32) (sz : Nat) : Met l yJ6_bitCount_0f7a4 wsJ6_bitCount_0f7a4 ({ frames := 0, cells := 0, slots := 0, locals := 0 } : Room) (hw_PC D G [.int p1] sz (fun H => True)) (hw_QR (fun v => ∃ (r : Int32), v = .int r ∧ (0 ≤ r.toInt ∧ r.toInt ≤ 63))) 0 0 (fun _ => False) := by
  refine hw_met (cc := cJ6_bitCount_0f7a4) (maxL := 1) (ret := (some .int)) (by decide +kernel) rfl (Nat.le_of_ble_eq_true rfl) ?_
  intro p e s m args below meth c QQ ls hsz hx hb hml hr hts hown hlocks hnm hH hK hST hF hQ hl
  subst hsz
  have hS : va_S (hw_AW G [] s.heap.size) s.heap s.heap [] := va_S.rf
  have hl : lv_has ls 1 [(0, .int p1)] := hl
  refine lv_iload_n hx hb dJ6_bitCount_0f7a4_0 rfl (lv_at hl 0 rfl) ?_
  refine lv_iload_n hx hb dJ6_bitCount_0f7a4_1 rfl (lv_at hl 0 rfl) ?_
  refine lv_iconst (v := 1) hx hb dJ6_bitCount_0f7a4_2 (by decide) ?_
  refine lv_iushr hx hb dJ6_bitCount_0f7a4_3 rfl ?_
  refine lv_topi (fun x2 e3 => ?_)
  refine lv_ldcw (v := 1431655765) hx hb hown (hts (.constant RJ6 265 (1431655765)) (by decide +kernel)) dJ6_bitCount_0f7a4_4 ?_
  refine lv_iand hx hb dJ6_bitCount_0f7a4_7 ?_
  refine lv_topi (fun x4 e5 => ?_)
  have t6 : 0 ≤ x4.toInt ∧ x4.toInt ≤ 1431655765 := by rw [e5]; exact hw_and (by first | decide | omega)
  refine lv_isub hx hb dJ6_bitCount_0f7a4_8 ?_
  refine lv_topi (fun x7 e8 => ?_)
  refine lv_istore_n (lv' := [(0, .int x7)]) hx hb dJ6_bitCount_0f7a4_9 rfl hl (by decide) rfl (fun ls hl => ?_)
  refine lv_iload_n hx hb dJ6_bitCount_0f7a4_10 rfl (lv_at hl 0 rfl) ?_
  refine lv_ldcw (v := 858993459) hx hb hown (hts (.constant RJ6 266 (858993459)) (by decide +kernel)) dJ6_bitCount_0f7a4_11 ?_
  refine lv_iand hx hb dJ6_bitCount_0f7a4_14 ?_
  refine lv_topi (fun x9 e10 => ?_)
  have t11 : 0 ≤ x9.toInt ∧ x9.toInt ≤ 858993459 := by rw [e10]; exact hw_and (by first | decide | omega)
  refine lv_iload_n hx hb dJ6_bitCount_0f7a4_15 rfl (lv_at hl 0 rfl) ?_
  refine lv_iconst (v := 2) hx hb dJ6_bitCount_0f7a4_16 (by decide) ?_
  refine lv_iushr hx hb dJ6_bitCount_0f7a4_17 rfl ?_
  refine lv_topi (fun x13 e14 => ?_)
  refine lv_ldcw (v := 858993459) hx hb hown (hts (.constant RJ6 266 (858993459)) (by decide +kernel)) dJ6_bitCount_0f7a4_18 ?_
  refine lv_iand hx hb dJ6_bitCount_0f7a4_21 ?_
  refine lv_topi (fun x15 e16 => ?_)
  have t17 : 0 ≤ x15.toInt ∧ x15.toInt ≤ 858993459 := by rw [e16]; exact hw_and (by first | decide | omega)
  refine lv_iadd hx hb dJ6_bitCount_0f7a4_22 ?_
  refine lv_topi (fun x18 e19 => ?_)
  have t20 : x18.toInt = x9.toInt + x15.toInt := by rw [e19]; exact hw_add rfl rfl (by omega) (by omega)
  refine lv_istore_n (lv' := [(0, .int x18)]) hx hb dJ6_bitCount_0f7a4_23 rfl hl (by decide) rfl (fun ls hl => ?_)
  refine lv_iload_n hx hb dJ6_bitCount_0f7a4_24 rfl (lv_at hl 0 rfl) ?_
  refine lv_iload_n hx hb dJ6_bitCount_0f7a4_25 rfl (lv_at hl 0 rfl) ?_
  refine lv_iconst (v := 4) hx hb dJ6_bitCount_0f7a4_26 (by decide) ?_
  refine lv_iushr hx hb dJ6_bitCount_0f7a4_27 rfl ?_
  refine lv_topi (fun x22 e23 => ?_)
  refine lv_iadd hx hb dJ6_bitCount_0f7a4_28 ?_
  refine lv_topi (fun x24 e25 => ?_)
  refine lv_ldcw (v := 252645135) hx hb hown (hts (.constant RJ6 267 (252645135)) (by decide +kernel)) dJ6_bitCount_0f7a4_29 ?_
  refine lv_iand hx hb dJ6_bitCount_0f7a4_32 ?_
  refine lv_topi (fun x26 e27 => ?_)
  have t28 : 0 ≤ x26.toInt ∧ x26.toInt ≤ 252645135 := by rw [e27]; exact hw_and (by first | decide | omega)
  refine lv_istore_n (lv' := [(0, .int x26)]) hx hb dJ6_bitCount_0f7a4_33 rfl hl (by decide) rfl (fun ls hl => ?_)
  refine lv_iload_n hx hb dJ6_bitCount_0f7a4_34 rfl (lv_at hl 0 rfl) ?_
  refine lv_iload_n hx hb dJ6_bitCount_0f7a4_35 rfl (lv_at hl 0 rfl) ?_
  refine lv_bipush (v := 8) hx hb dJ6_bitCount_0f7a4_36 (by decide) ?_
  refine lv_iushr hx hb dJ6_bitCount_0f7a4_38 rfl ?_
  refine lv_topi (fun x30 e31 => ?_)
  refine lv_iadd hx hb dJ6_bitCount_0f7a4_39 ?_
  refine lv_topi (fun x32 e33 => ?_)
  refine lv_istore_n (lv' := [(0, .int x32)]) hx hb dJ6_bitCount_0f7a4_40 rfl hl (by decide) rfl (fun ls hl => ?_)
  refine lv_iload_n hx hb dJ6_bitCount_0f7a4_41 rfl (lv_at hl 0 rfl) ?_
  refine lv_iload_n hx hb dJ6_bitCount_0f7a4_42 rfl (lv_at hl 0 rfl) ?_
  refine lv_bipush (v := 16) hx hb dJ6_bitCount_0f7a4_43 (by decide) ?_
  refine lv_iushr hx hb dJ6_bitCount_0f7a4_45 rfl ?_
  refine lv_topi (fun x35 e36 => ?_)
  refine lv_iadd hx hb dJ6_bitCount_0f7a4_46 ?_
  refine lv_topi (fun x37 e38 => ?_)
  refine lv_istore_n (lv' := [(0, .int x37)]) hx hb dJ6_bitCount_0f7a4_47 rfl hl (by decide) rfl (fun ls hl => ?_)
  refine lv_iload_n hx hb dJ6_bitCount_0f7a4_48 rfl (lv_at hl 0 rfl) ?_
  refine lv_bipush (v := 63) hx hb dJ6_bitCount_0f7a4_49 (by decide) ?_
  refine lv_iand hx hb dJ6_bitCount_0f7a4_51 ?_
  refine lv_topi (fun x39 e40 => ?_)
  have t41 : 0 ≤ x39.toInt ∧ x39.toInt ≤ 63 := by rw [e40]; exact hw_and (by first | decide | omega)
  exact hw_iretR (v := x39) hx hb hr hlocks hQ rfl (⟨x39, rfl, ⟨by first | decide | omega, by first | decide | omega⟩⟩) dJ6_bitCount_0f7a4_52

set_option maxHeartbeats 4000000 in
set_option maxRecDepth 100000 in
theorem k_J9_floorMod_7cf53 (l : Launch) (D : hw_D) (G : Nat → Nat) (p1 : Int32) (p2 : Int32) (sz : Nat) (hp2 : p2.toInt = 8) : Met l yJ9_floorMod_7cf53 wsJ9_floorMod_7cf53 ({ frames := 0, cells := 0, slots := 0, locals := 0 } : Room) (hw_PC D G [.int p1, .int p2] sz (fun H => True)) (hw_QR (fun v => ∃ (r : Int32), v = .int r ∧ (0 ≤ r.toInt ∧ r.toInt ≤ 7))) 0 0 (fun _ => False) := by
  refine hw_met (cc := cJ9_floorMod_7cf53) (maxL := 3) (ret := (some .int)) (by decide +kernel) rfl (Nat.le_of_ble_eq_true rfl) ?_
  intro p e s m args below meth c QQ ls hsz hx hb hml hr hts hown hlocks hnm hH hK hST hF hQ hl
  subst hsz
  have hS : va_S (hw_AW G [] s.heap.size) s.heap s.heap [] := va_S.rf
  have hl : lv_has ls 3 [(0, .int p1), (1, .int p2)] := hl
  refine lv_iload_n hx hb dJ9_floorMod_7cf53_0 rfl (lv_at hl 0 rfl) ?_
  refine lv_iload_n hx hb dJ9_floorMod_7cf53_1 rfl (lv_at hl 1 rfl) ?_
  refine lv_irem hx hb dJ9_floorMod_7cf53_2 (fun h9 => by have h8 : p2.toInt = 0 := hw_ieq h9; omega) ?_
  refine lv_topi (fun x1 e2 => ?_)
  have t3 : (-p2.toInt < x1.toInt ∧ x1.toInt < p2.toInt) ∧ (0 ≤ p1.toInt → 0 ≤ x1.toInt) ∧ (p1.toInt ≤ 0 → x1.toInt ≤ 0) := by rw [e2]; exact hw_rem (by omega)
  refine lv_istore_n (lv' := [(2, .int x1), (0, .int p1), (1, .int p2)]) hx hb dJ9_floorMod_7cf53_3 rfl hl (by decide) rfl (fun ls hl => ?_)
  refine lv_iload_n hx hb dJ9_floorMod_7cf53_4 rfl (lv_at hl 1 rfl) ?_
  refine lv_iload_n hx hb dJ9_floorMod_7cf53_5 rfl (lv_at hl 2 rfl) ?_
  refine lv_ixor hx hb dJ9_floorMod_7cf53_6 ?_
  refine lv_topi (fun x4 e5 => ?_)
  have t6 : 0 ≤ x4.toInt ↔ 0 ≤ p1.toInt := by rw [e5]; exact hw_xors (by first | decide | omega)
  refine lv_if_ge (tgt := 18) hx hb dJ9_floorMod_7cf53_7 (by decide) (fun c7 => ?_) (fun c7 => ?_)
  · have b8 : 0 ≤ x4.toInt := hw_ile c7
    refine lv_iload_n hx hb dJ9_floorMod_7cf53_18 rfl (lv_at hl 0 rfl) ?_
    exact hw_iretR (v := x1) hx hb hr hlocks hQ rfl (⟨x1, rfl, ⟨by first | decide | omega, by first | decide | omega⟩⟩) dJ9_floorMod_7cf53_19
  · have b9 : x4.toInt < 0 := hw_inle c7
    refine lv_iload_n hx hb dJ9_floorMod_7cf53_10 rfl (lv_at hl 0 rfl) ?_
    refine lv_if_eq (tgt := 18) hx hb dJ9_floorMod_7cf53_11 (by decide) (fun c10 => ?_) (fun c10 => ?_)
    · have b11 : x1.toInt = 0 := hw_ieq c10
      refine lv_iload_n hx hb dJ9_floorMod_7cf53_18 rfl (lv_at hl 0 rfl) ?_
      exact hw_iretR (v := x1) hx hb hr hlocks hQ rfl (⟨x1, rfl, ⟨by first | decide | omega, by first | decide | omega⟩⟩) dJ9_floorMod_7cf53_19
    · have b12 : x1.toInt ≠ 0 := hw_ine c10
      refine lv_iload_n hx hb dJ9_floorMod_7cf53_14 rfl (lv_at hl 0 rfl) ?_
      refine lv_iload_n hx hb dJ9_floorMod_7cf53_15 rfl (lv_at hl 2 rfl) ?_
      refine lv_iadd hx hb dJ9_floorMod_7cf53_16 ?_
      refine lv_topi (fun x13 e14 => ?_)
      have t15 : x13.toInt = x1.toInt + p2.toInt := by rw [e14]; exact hw_add rfl rfl (by omega) (by omega)
      exact hw_iretR (v := x13) hx hb hr hlocks hQ rfl (⟨x13, rfl, ⟨by first | decide | omega, by first | decide | omega⟩⟩) dJ9_floorMod_7cf53_17

set_option maxHeartbeats 4000000 in
set_option maxRecDepth 100000 in
theorem k_X3_goneRound (l : Launch) (D : hw_D) (G : Nat → Nat) (h0 : Nat) (p1 : Int32) (sz : Nat) (G0 : G h0 = 3) : Met l yX3_goneRound wsX3_goneRound ({ frames := 0, cells := 0, slots := 0, locals := 0 } : Room) (hw_PC D G [.ref h0, .int p1] sz (fun H => True)) (hw_QR (fun v => ∃ (r : Int32), v = .int r ∧ (0 ≤ r.toInt ∧ r.toInt ≤ 511))) 0 0 (fun _ => False) := by
  refine hw_met (cc := cX3_goneRound) (maxL := 2) (ret := (some .int)) (plainFor_of_name (by decide)) rfl (Nat.le_of_ble_eq_true rfl) ?_
  intro p e s m args below meth c QQ ls hsz hx hb hml hr hts hown hlocks hnm hH hK hST hF hQ hl
  subst hsz
  have hS : va_S (hw_AW G [] s.heap.size) s.heap s.heap [] := va_S.rf
  have hl : lv_has ls 2 [(0, .ref h0), (1, .int p1)] := hl
  have u_0 : ∀ w ∈ u_ws RX0 TX0 2, w.before args s = true := fun w hw => hts w ((by decide +kernel : ∀ w ∈ u_ws RX0 TX0 2, w ∈ wsX3_goneRound) w hw)
  have fg_9_0 : hw_FG s args m 9 0 0 := ⟨RX3, "WardWalkers$Key", RX0, TX0, 2, u_0, hown, rfl, by decide, (hts (.fieldLink RX3 9 "WardWalkers$Key" "cut" "I") (by decide +kernel)), (fun _ h9 => h9)⟩
  have u_2 : ∀ w ∈ u_ws RX2 TX2 2, w.before args s = true := fun w hw => hts w ((by decide +kernel : ∀ w ∈ u_ws RX2 TX2 2, w ∈ wsX3_goneRound) w hw)
  have fg_9_2 : hw_FG s args m 9 2 0 := ⟨RX3, "WardWalkers$Key", RX2, TX2, 2, u_2, hown, rfl, by decide, (hts (.fieldLink RX3 9 "WardWalkers$Key" "cut" "I") (by decide +kernel)), (fun _ h9 => h9)⟩
  have u_4 : ∀ w ∈ u_ws RX5 TX5 2, w.before args s = true := fun w hw => hts w ((by decide +kernel : ∀ w ∈ u_ws RX5 TX5 2, w ∈ wsX3_goneRound) w hw)
  have fg_9_4 : hw_FG s args m 9 4 0 := ⟨RX3, "WardWalkers$Key", RX5, TX5, 2, u_4, hown, rfl, by decide, (hts (.fieldLink RX3 9 "WardWalkers$Key" "cut" "I") (by decide +kernel)), (fun _ h9 => h9)⟩
  have u_7 : ∀ w ∈ u_ws RX8 TX8 2, w.before args s = true := fun w hw => hts w ((by decide +kernel : ∀ w ∈ u_ws RX8 TX8 2, w ∈ wsX3_goneRound) w hw)
  have fg_9_7 : hw_FG s args m 9 7 0 := ⟨RX3, "WardWalkers$Key", RX8, TX8, 2, u_7, hown, rfl, by decide, (hts (.fieldLink RX3 9 "WardWalkers$Key" "cut" "I") (by decide +kernel)), (fun _ h9 => h9)⟩
  refine lv_aload_n hx hb dX3_goneRound_0 rfl (lv_at hl 0 rfl) ?_
  obtain ⟨ci1, cu2, mk3, c5, v4⟩ := hH.oKey G0
  rcases c5 with rfl | rfl | rfl | rfl
  · refine hw_get hx hb fg_9_0 hK v4 rfl dX3_goneRound_1 ?_
    refine lv_iload_n hx hb dX3_goneRound_4 rfl (lv_at hl 1 rfl) ?_
    refine lv_ishl hx hb dX3_goneRound_5 ?_
    refine lv_topi (fun x6 e7 => ?_)
    refine lv_aload_n hx hb dX3_goneRound_6 rfl (lv_at hl 0 rfl) ?_
    refine hw_get hx hb fg_9_0 hK v4 rfl dX3_goneRound_7 ?_
    refine lv_bipush (v := 9) hx hb dX3_goneRound_10 (by decide) ?_
    refine lv_iload_n hx hb dX3_goneRound_12 rfl (lv_at hl 1 rfl) ?_
    refine lv_isub hx hb dX3_goneRound_13 ?_
    refine lv_topi (fun x8 e9 => ?_)
    refine lv_ishr hx hb dX3_goneRound_14 ?_
    refine lv_topi (fun x10 e11 => ?_)
    refine lv_ior hx hb dX3_goneRound_15 ?_
    refine lv_topi (fun x12 e13 => ?_)
    refine lv_sipush (v := 511) hx hb dX3_goneRound_16 (by decide) ?_
    refine lv_iand hx hb dX3_goneRound_19 ?_
    refine lv_topi (fun x14 e15 => ?_)
    have t16 : 0 ≤ x14.toInt ∧ x14.toInt ≤ 511 := by rw [e15]; exact hw_and (by first | decide | omega)
    exact hw_iretR (v := x14) hx hb hr hlocks hQ rfl (⟨x14, rfl, ⟨by first | decide | omega, by first | decide | omega⟩⟩) dX3_goneRound_20
  · refine hw_get hx hb fg_9_2 hK v4 rfl dX3_goneRound_1 ?_
    refine lv_iload_n hx hb dX3_goneRound_4 rfl (lv_at hl 1 rfl) ?_
    refine lv_ishl hx hb dX3_goneRound_5 ?_
    refine lv_topi (fun x17 e18 => ?_)
    refine lv_aload_n hx hb dX3_goneRound_6 rfl (lv_at hl 0 rfl) ?_
    refine hw_get hx hb fg_9_2 hK v4 rfl dX3_goneRound_7 ?_
    refine lv_bipush (v := 9) hx hb dX3_goneRound_10 (by decide) ?_
    refine lv_iload_n hx hb dX3_goneRound_12 rfl (lv_at hl 1 rfl) ?_
    refine lv_isub hx hb dX3_goneRound_13 ?_
    refine lv_topi (fun x19 e20 => ?_)
    refine lv_ishr hx hb dX3_goneRound_14 ?_
    refine lv_topi (fun x21 e22 => ?_)
    refine lv_ior hx hb dX3_goneRound_15 ?_
    refine lv_topi (fun x23 e24 => ?_)
    refine lv_sipush (v := 511) hx hb dX3_goneRound_16 (by decide) ?_
    refine lv_iand hx hb dX3_goneRound_19 ?_
    refine lv_topi (fun x25 e26 => ?_)
    have t27 : 0 ≤ x25.toInt ∧ x25.toInt ≤ 511 := by rw [e26]; exact hw_and (by first | decide | omega)
    exact hw_iretR (v := x25) hx hb hr hlocks hQ rfl (⟨x25, rfl, ⟨by first | decide | omega, by first | decide | omega⟩⟩) dX3_goneRound_20
  · refine hw_get hx hb fg_9_4 hK v4 rfl dX3_goneRound_1 ?_
    refine lv_iload_n hx hb dX3_goneRound_4 rfl (lv_at hl 1 rfl) ?_
    refine lv_ishl hx hb dX3_goneRound_5 ?_
    refine lv_topi (fun x28 e29 => ?_)
    refine lv_aload_n hx hb dX3_goneRound_6 rfl (lv_at hl 0 rfl) ?_
    refine hw_get hx hb fg_9_4 hK v4 rfl dX3_goneRound_7 ?_
    refine lv_bipush (v := 9) hx hb dX3_goneRound_10 (by decide) ?_
    refine lv_iload_n hx hb dX3_goneRound_12 rfl (lv_at hl 1 rfl) ?_
    refine lv_isub hx hb dX3_goneRound_13 ?_
    refine lv_topi (fun x30 e31 => ?_)
    refine lv_ishr hx hb dX3_goneRound_14 ?_
    refine lv_topi (fun x32 e33 => ?_)
    refine lv_ior hx hb dX3_goneRound_15 ?_
    refine lv_topi (fun x34 e35 => ?_)
    refine lv_sipush (v := 511) hx hb dX3_goneRound_16 (by decide) ?_
    refine lv_iand hx hb dX3_goneRound_19 ?_
    refine lv_topi (fun x36 e37 => ?_)
    have t38 : 0 ≤ x36.toInt ∧ x36.toInt ≤ 511 := by rw [e37]; exact hw_and (by first | decide | omega)
    exact hw_iretR (v := x36) hx hb hr hlocks hQ rfl (⟨x36, rfl, ⟨by first | decide | omega, by first | decide | omega⟩⟩) dX3_goneRound_20
  · refine hw_get hx hb fg_9_7 hK v4 rfl dX3_goneRound_1 ?_
    refine lv_iload_n hx hb dX3_goneRound_4 rfl (lv_at hl 1 rfl) ?_
    refine lv_ishl hx hb dX3_goneRound_5 ?_
    refine lv_topi (fun x39 e40 => ?_)
    refine lv_aload_n hx hb dX3_goneRound_6 rfl (lv_at hl 0 rfl) ?_
    refine hw_get hx hb fg_9_7 hK v4 rfl dX3_goneRound_7 ?_
    refine lv_bipush (v := 9) hx hb dX3_goneRound_10 (by decide) ?_
    refine lv_iload_n hx hb dX3_goneRound_12 rfl (lv_at hl 1 rfl) ?_
    refine lv_isub hx hb dX3_goneRound_13 ?_
    refine lv_topi (fun x41 e42 => ?_)
    refine lv_ishr hx hb dX3_goneRound_14 ?_
    refine lv_topi (fun x43 e44 => ?_)
    refine lv_ior hx hb dX3_goneRound_15 ?_
    refine lv_topi (fun x45 e46 => ?_)
    refine lv_sipush (v := 511) hx hb dX3_goneRound_16 (by decide) ?_
    refine lv_iand hx hb dX3_goneRound_19 ?_
    refine lv_topi (fun x47 e48 => ?_)
    have t49 : 0 ≤ x47.toInt ∧ x47.toInt ≤ 511 := by rw [e48]; exact hw_and (by first | decide | omega)
    exact hw_iretR (v := x47) hx hb hr hlocks hQ rfl (⟨x47, rfl, ⟨by first | decide | omega, by first | decide | omega⟩⟩) dX3_goneRound_20

set_option maxHeartbeats 4000000 in
set_option maxRecDepth 100000 in
theorem k_X0_kindNumber (l : Launch) (D : hw_D) (G : Nat → Nat) (h0 : Nat) (sz : Nat) (G0 : G h0 = 3) : Met l yX0_kindNumber wsX0_kindNumber ({ frames := 0, cells := 0, slots := 0, locals := 0 } : Room) (hw_PC D G [.ref h0] sz (fun H => True)) (hw_QR (fun v => ∃ (r : Int32), v = .int r)) 0 0 (fun _ => False) := by
  refine hw_met (cc := cX0_kindNumber) (maxL := 1) (ret := (some .int)) (plainFor_of_name (by decide)) rfl (Nat.le_of_ble_eq_true rfl) ?_
  intro p e s m args below meth c QQ ls hsz hx hb hml hr hts hown hlocks hnm hH hK hST hF hQ hl
  subst hsz
  have hS : va_S (hw_AW G [] s.heap.size) s.heap s.heap [] := va_S.rf
  have hl : lv_has ls 1 [(0, .ref h0)] := hl
  refine lv_iconst (v := 0) hx hb dX0_kindNumber_0 (by decide) ?_
  exact hw_iretR (v := 0) hx hb hr hlocks hQ rfl (⟨0, rfl⟩) dX0_kindNumber_1

set_option maxHeartbeats 4000000 in
set_option maxRecDepth 100000 in
theorem k_X2_kindNumber (l : Launch) (D : hw_D) (G : Nat → Nat) (h0 : Nat) (sz : Nat) (G0 : G h0 = 3) : Met l yX2_kindNumber wsX2_kindNumber ({ frames := 0, cells := 0, slots := 0, locals := 0 } : Room) (hw_PC D G [.ref h0] sz (fun H => True)) (hw_QR (fun v => ∃ (r : Int32), v = .int r)) 0 0 (fun _ => False) := by
  refine hw_met (cc := cX2_kindNumber) (maxL := 1) (ret := (some .int)) (plainFor_of_name (by decide)) rfl (Nat.le_of_ble_eq_true rfl) ?_
  intro p e s m args below meth c QQ ls hsz hx hb hml hr hts hown hlocks hnm hH hK hST hF hQ hl
  subst hsz
  have hS : va_S (hw_AW G [] s.heap.size) s.heap s.heap [] := va_S.rf
  have hl : lv_has ls 1 [(0, .ref h0)] := hl
  refine lv_iconst (v := 3) hx hb dX2_kindNumber_0 (by decide) ?_
  exact hw_iretR (v := 3) hx hb hr hlocks hQ rfl (⟨3, rfl⟩) dX2_kindNumber_1

set_option maxHeartbeats 4000000 in
set_option maxRecDepth 100000 in
theorem k_X5_kindNumber (l : Launch) (D : hw_D) (G : Nat → Nat) (h0 : Nat) (sz : Nat) (G0 : G h0 = 3) : Met l yX5_kindNumber wsX5_kindNumber ({ frames := 0, cells := 0, slots := 0, locals := 0 } : Room) (hw_PC D G [.ref h0] sz (fun H => True)) (hw_QR (fun v => ∃ (r : Int32), v = .int r)) 0 0 (fun _ => False) := by
  refine hw_met (cc := cX5_kindNumber) (maxL := 1) (ret := (some .int)) (plainFor_of_name (by decide)) rfl (Nat.le_of_ble_eq_true rfl) ?_
  intro p e s m args below meth c QQ ls hsz hx hb hml hr hts hown hlocks hnm hH hK hST hF hQ hl
  subst hsz
  have hS : va_S (hw_AW G [] s.heap.size) s.heap s.heap [] := va_S.rf
  have hl : lv_has ls 1 [(0, .ref h0)] := hl
  refine lv_iconst (v := 2) hx hb dX5_kindNumber_0 (by decide) ?_
  exact hw_iretR (v := 2) hx hb hr hlocks hQ rfl (⟨2, rfl⟩) dX5_kindNumber_1

set_option maxHeartbeats 4000000 in
set_option maxRecDepth 100000 in
theorem k_X8_kindNumber (l : Launch) (D : hw_D) (G : Nat → Nat) (h0 : Nat) (sz : Nat) (G0 : G h0 = 3) : Met l yX8_kindNumber wsX8_kindNumber ({ frames := 0, cells := 0, slots := 0, locals := 0 } : Room) (hw_PC D G [.ref h0] sz (fun H => True)) (hw_QR (fun v => ∃ (r : Int32), v = .int r)) 0 0 (fun _ => False) := by
  refine hw_met (cc := cX8_kindNumber) (maxL := 1) (ret := (some .int)) (plainFor_of_name (by decide)) rfl (Nat.le_of_ble_eq_true rfl) ?_
  intro p e s m args below meth c QQ ls hsz hx hb hml hr hts hown hlocks hnm hH hK hST hF hQ hl
  subst hsz
  have hS : va_S (hw_AW G [] s.heap.size) s.heap s.heap [] := va_S.rf
  have hl : lv_has ls 1 [(0, .ref h0)] := hl
  refine lv_iconst (v := 1) hx hb dX8_kindNumber_0 (by decide) ?_
  exact hw_iretR (v := 1) hx hb hr hlocks hQ rfl (⟨1, rfl⟩) dX8_kindNumber_1

set_option maxHeartbeats 4000000 in
set_option maxRecDepth 100000 in
theorem k_X0_room (l : Launch) (D : hw_D) (G : Nat → Nat) (h0 : Nat) (p1 : Int32) (sz : Nat) (G0 : G h0 = 3) : Met l yX0_room wsX0_room ({ frames := 0, cells := 0, slots := 0, locals := 0 } : Room) (hw_PC D G [.ref h0, .int p1] sz (fun H => True)) (hw_QR (fun v => ∃ (r : Int32), v = .int r)) 0 0 (fun _ => False) := by
  refine hw_met (cc := cX0_room) (maxL := 2) (ret := (some .int)) (plainFor_of_name (by decide)) rfl (Nat.le_of_ble_eq_true rfl) ?_
  intro p e s m args below meth c QQ ls hsz hx hb hml hr hts hown hlocks hnm hH hK hST hF hQ hl
  subst hsz
  have hS : va_S (hw_AW G [] s.heap.size) s.heap s.heap [] := va_S.rf
  have hl : lv_has ls 2 [(0, .ref h0), (1, .int p1)] := hl
  refine lv_iload_n hx hb dX0_room_0 rfl (lv_at hl 1 rfl) ?_
  exact hw_iretR (v := p1) hx hb hr hlocks hQ rfl (⟨p1, rfl⟩) dX0_room_1

set_option maxHeartbeats 4000000 in
set_option maxRecDepth 100000 in
theorem k_X2_room (l : Launch) (D : hw_D) (G : Nat → Nat) (h0 : Nat) (p1 : Int32) (sz : Nat) (G0 : G h0 = 3) : Met l yX2_room wsX2_room ({ frames := 0, cells := 0, slots := 0, locals := 0 } : Room) (hw_PC D G [.ref h0, .int p1] sz (fun H => True)) (hw_QR (fun v => ∃ (r : Int32), v = .int r)) 0 0 (fun _ => False) := by
  refine hw_met (cc := cX2_room) (maxL := 2) (ret := (some .int)) (plainFor_of_name (by decide)) rfl (Nat.le_of_ble_eq_true rfl) ?_
  intro p e s m args below meth c QQ ls hsz hx hb hml hr hts hown hlocks hnm hH hK hST hF hQ hl
  subst hsz
  have hS : va_S (hw_AW G [] s.heap.size) s.heap s.heap [] := va_S.rf
  have hl : lv_has ls 2 [(0, .ref h0), (1, .int p1)] := hl
  refine lv_iload_n hx hb dX2_room_0 rfl (lv_at hl 1 rfl) ?_
  exact hw_iretR (v := p1) hx hb hr hlocks hQ rfl (⟨p1, rfl⟩) dX2_room_1

set_option maxHeartbeats 4000000 in
set_option maxRecDepth 100000 in
theorem k_X5_room (l : Launch) (D : hw_D) (G : Nat → Nat) (h0 : Nat) (p1 : Int32) (sz : Nat) (G0 : G h0 = 3) : Met l yX5_room wsX5_room ({ frames := 0, cells := 0, slots := 0, locals := 0 } : Room) (hw_PC D G [.ref h0, .int p1] sz (fun H => True)) (hw_QR (fun v => ∃ (r : Int32), v = .int r)) 0 0 (fun _ => False) := by
  refine hw_met (cc := cX5_room) (maxL := 2) (ret := (some .int)) (plainFor_of_name (by decide)) rfl (Nat.le_of_ble_eq_true rfl) ?_
  intro p e s m args below meth c QQ ls hsz hx hb hml hr hts hown hlocks hnm hH hK hST hF hQ hl
  subst hsz
  have hS : va_S (hw_AW G [] s.heap.size) s.heap s.heap [] := va_S.rf
  have hl : lv_has ls 2 [(0, .ref h0), (1, .int p1)] := hl
  refine lv_bipush (v := 9) hx hb dX5_room_0 (by decide) ?_
  exact hw_iretR (v := 9) hx hb hr hlocks hQ rfl (⟨9, rfl⟩) dX5_room_2

set_option maxHeartbeats 4000000 in
set_option maxRecDepth 100000 in
theorem k_X0_edge (l : Launch) (D : hw_D) (G : Nat → Nat) (h0 : Nat) (p1 : Int32) (sz : Nat) (ci_a : Nat) (cu_a mk_a : Int32) (G0 : G h0 = 3) (hci : ci_a = 0 ∨ ci_a = 4 ∨ ci_a = 7) : Met l yX0_edge wsX0_edge ({ frames := 1, cells := 0, slots := 0, locals := 21 } : Room) (hw_PC D G [.ref h0, .int p1] sz (fun H => va_at D.1 vwCl (h0, .inr (ci_a, [.int cu_a, .int mk_a])) H)) (hw_QR (fun v => ∃ (r : Int32), v = .int r)) 0 0 (fun _ => False) := by
  refine hw_met (cc := cX0_edge) (maxL := 2) (ret := (some .int)) (plainFor_of_name (by decide)) rfl (Nat.le_of_ble_eq_true rfl) ?_
  intro p e s m args below meth c QQ ls hsz hx hb hml hr hts hown hlocks hnm hH hK hST hF hQ hl
  subst hsz
  have hS : va_S (hw_AW G [] s.heap.size) s.heap s.heap [] := va_S.rf
  have va := hF
  have hl : lv_has ls 2 [(0, .ref h0), (1, .int p1)] := hl
  rcases hci with rfl | rfl | rfl
  · refine lv_aload_n hx hb dX0_edge_0 rfl (lv_at hl 0 rfl) ?_
    refine lv_iload_n hx hb dX0_edge_1 rfl (lv_at hl 1 rfl) ?_
    refine hw_cR (va_runU (As := [.int p1]) (rest := []) ⟨hx, hb, hml, hown, hts⟩ (k_X3_goneRound l D G h0 p1 _ G0) (va_cwU 1 hts gX0_edge_X3_goneRound_u7X0 rfl rfl rfl rfl (by decide +kernel) ⟨Nat.le_of_ble_eq_true rfl, Nat.le_of_ble_eq_true rfl⟩) (hw_pV (hw_rc (q := (RX0, TX0, 2)) hK va rfl) hH hK hST hS (by decide) (fun _ h => Or.inl h) trivial) rfl rfl hl.1 rfl (lv_room (Nat.le_of_ble_eq_true rfl)) dX0_edge_2 ⟨Nat.le_of_ble_eq_true rfl, Nat.le_of_ble_eq_true rfl⟩) (fun v hp => ?_)
    obtain ⟨x1, rfl, g2⟩ := hp
    exact hw_iretR (v := x1) hx hb hr hlocks hQ rfl (⟨x1, rfl⟩) dX0_edge_5
  · refine lv_aload_n hx hb dX0_edge_0 rfl (lv_at hl 0 rfl) ?_
    refine lv_iload_n hx hb dX0_edge_1 rfl (lv_at hl 1 rfl) ?_
    refine hw_cR (va_runU (As := [.int p1]) (rest := []) ⟨hx, hb, hml, hown, hts⟩ (k_X3_goneRound l D G h0 p1 _ G0) (va_cwU 1 hts gX0_edge_X3_goneRound_u7X5 rfl rfl rfl rfl (by decide +kernel) ⟨Nat.le_of_ble_eq_true rfl, Nat.le_of_ble_eq_true rfl⟩) (hw_pV (hw_rc (q := (RX5, TX5, 2)) hK va rfl) hH hK hST hS (by decide) (fun _ h => Or.inl h) trivial) rfl rfl hl.1 rfl (lv_room (Nat.le_of_ble_eq_true rfl)) dX0_edge_2 ⟨Nat.le_of_ble_eq_true rfl, Nat.le_of_ble_eq_true rfl⟩) (fun v hp => ?_)
    obtain ⟨x3, rfl, g4⟩ := hp
    exact hw_iretR (v := x3) hx hb hr hlocks hQ rfl (⟨x3, rfl⟩) dX0_edge_5
  · refine lv_aload_n hx hb dX0_edge_0 rfl (lv_at hl 0 rfl) ?_
    refine lv_iload_n hx hb dX0_edge_1 rfl (lv_at hl 1 rfl) ?_
    refine hw_cR (va_runU (As := [.int p1]) (rest := []) ⟨hx, hb, hml, hown, hts⟩ (k_X3_goneRound l D G h0 p1 _ G0) (va_cwU 1 hts gX0_edge_X3_goneRound_u7X8 rfl rfl rfl rfl (by decide +kernel) ⟨Nat.le_of_ble_eq_true rfl, Nat.le_of_ble_eq_true rfl⟩) (hw_pV (hw_rc (q := (RX8, TX8, 2)) hK va rfl) hH hK hST hS (by decide) (fun _ h => Or.inl h) trivial) rfl rfl hl.1 rfl (lv_room (Nat.le_of_ble_eq_true rfl)) dX0_edge_2 ⟨Nat.le_of_ble_eq_true rfl, Nat.le_of_ble_eq_true rfl⟩) (fun v hp => ?_)
    obtain ⟨x5, rfl, g6⟩ := hp
    exact hw_iretR (v := x5) hx hb hr hlocks hQ rfl (⟨x5, rfl⟩) dX0_edge_5

set_option maxHeartbeats 4000000 in
set_option maxRecDepth 100000 in
theorem k_X2_edge (l : Launch) (D : hw_D) (G : Nat → Nat) (h0 : Nat) (p1 : Int32) (sz : Nat) (ci_a : Nat) (cu_a mk_a : Int32) (G0 : G h0 = 3) (hci : ci_a = 2) : Met l yX2_edge wsX2_edge ({ frames := 1, cells := 0, slots := 0, locals := 21 } : Room) (hw_PC D G [.ref h0, .int p1] sz (fun H => va_at D.1 vwCl (h0, .inr (ci_a, [.int cu_a, .int mk_a])) H)) (hw_QR (fun v => ∃ (r : Int32), v = .int r)) 0 0 (fun _ => False) := by
  refine hw_met (cc := cX2_edge) (maxL := 5) (ret := (some .int)) (plainFor_of_name (by decide)) rfl (Nat.le_of_ble_eq_true rfl) ?_
  intro p e s m args below meth c QQ ls hsz hx hb hml hr hts hown hlocks hnm hH hK hST hF hQ hl
  subst hsz
  have hS : va_S (hw_AW G [] s.heap.size) s.heap s.heap [] := va_S.rf
  have va := hF
  have hl : lv_has ls 5 [(0, .ref h0), (1, .int p1)] := hl
  have u_2 : ∀ w ∈ u_ws RX2 TX2 2, w.before args s = true := fun w hw => hts w ((by decide +kernel : ∀ w ∈ u_ws RX2 TX2 2, w ∈ wsX2_edge) w hw)
  have fg_15_2 : hw_FG s args m 15 2 1 := ⟨RX2, "WardWalkers$Filed", RX2, TX2, 2, u_2, hown, rfl, by decide, (hts (.fieldLink RX2 15 "WardWalkers$Filed" "mark" "I") (by decide +kernel)), (fun x9 h9 => u_same (hts (.sameField "WardWalkers$Filed" "WardWalkers$Key" "mark" "I") (by decide +kernel)) x9 h9)⟩
  rcases hci with rfl
  refine lv_aload_n hx hb dX2_edge_0 rfl (lv_at hl 0 rfl) ?_
  refine lv_iload_n hx hb dX2_edge_1 rfl (lv_at hl 1 rfl) ?_
  refine hw_cR (va_runU (As := [.int p1]) (rest := []) ⟨hx, hb, hml, hown, hts⟩ (k_X3_goneRound l D G h0 p1 _ G0) (va_cwU 1 hts gX2_edge_X3_goneRound_u9X2 rfl rfl rfl rfl (by decide +kernel) ⟨Nat.le_of_ble_eq_true rfl, Nat.le_of_ble_eq_true rfl⟩) (hw_pV (hw_rc (q := (RX2, TX2, 2)) hK va rfl) hH hK hST hS (by decide) (fun _ h => Or.inl h) trivial) rfl rfl hl.1 rfl (lv_room (Nat.le_of_ble_eq_true rfl)) dX2_edge_2 ⟨Nat.le_of_ble_eq_true rfl, Nat.le_of_ble_eq_true rfl⟩) (fun v hp => ?_)
  obtain ⟨x1, rfl, g2⟩ := hp
  refine lv_istore_n (lv' := [(2, .int x1), (0, .ref h0), (1, .int p1)]) hx hb dX2_edge_5 rfl hl (by decide) rfl (fun ls hl => ?_)
  refine lv_aload_n hx hb dX2_edge_6 rfl (lv_at hl 1 rfl) ?_
  refine hw_get hx hb fg_15_2 hK va rfl dX2_edge_7 ?_
  refine lv_istore_n (lv' := [(3, .int mk_a), (2, .int x1), (0, .ref h0), (1, .int p1)]) hx hb dX2_edge_10 rfl hl (by decide) rfl (fun ls hl => ?_)
  refine lv_iconst (v := 0) hx hb dX2_edge_11 (by decide) ?_
  refine lv_istore (lv' := [(4, .int 0), (3, .int mk_a), (2, .int x1), (0, .ref h0), (1, .int p1)]) hx hb dX2_edge_12 hl (by decide) rfl (fun ls hl => ?_)
  have L14 : ∀ (n7 : Nat) (y4_3 : Int32) (y3_4 : Int32) (y2_5 : Int32) (hm : (9 - y4_3.toInt).toNat < n7) (g6 : 0 ≤ y4_3.toInt ∧ y4_3.toInt ≤ 9) (ls : Array Slot) (hl : lv_has ls 5 [(4, .int y4_3), (3, .int y3_4), (2, .int y2_5), (0, .ref h0), (1, .int p1)]), W p l e ({ frames := 1, cells := 0, slots := 0, locals := 21 } : Room) s m args below meth c s.heap [] 0 0 QQ (F0 m 14 ls []) := by
    intro n7
    induction n7 with
    | zero => intro y4_3 y3_4 y2_5 hm; exact absurd hm (Nat.not_lt_zero _)
    | succ n7 ih14 =>
      intro y4_3 y3_4 y2_5 hm g6 ls hl
      refine lv_iload hx hb dX2_edge_14 (lv_at hl 0 rfl) ?_
      refine lv_bipush (v := 9) hx hb dX2_edge_16 (by decide) ?_
      refine lv_icmp_ge (tgt := 53) hx hb dX2_edge_18 (by decide) (fun c8 => ?_) (fun c8 => ?_)
      · have b9 : 9 ≤ y4_3.toInt := hw_ile c8
        refine lv_iload_n hx hb dX2_edge_53 rfl (lv_at hl 2 rfl) ?_
        exact hw_iretR (v := y2_5) hx hb hr hlocks hQ rfl (⟨y2_5, rfl⟩) dX2_edge_54
      · have b10 : y4_3.toInt < 9 := hw_inle c8
        refine lv_iload_n hx hb dX2_edge_21 rfl (lv_at hl 1 rfl) ?_
        refine lv_if_le (tgt := 47) hx hb dX2_edge_22 (by decide) (fun c11 => ?_) (fun c11 => ?_)
        · have b12 : y3_4.toInt ≤ 0 := hw_ile c11
          obtain ⟨x13, e14⟩ : ∃ y : Int32, y = y4_3 + 1 := ⟨_, rfl⟩
          refine lv_iinc (v := x13) (lv' := [(4, .int x13), (3, .int y3_4), (2, .int y2_5), (0, .ref h0), (1, .int p1)]) hx hb dX2_edge_47 hl (k := 0) rfl (by rw [e14]; rfl) (by decide) rfl (fun ls hl => ?_)
          have t15 : x13.toInt = y4_3.toInt + 1 := by rw [e14]; exact hw_add rfl rfl (by omega) (by omega)
          refine lv_goto (tgt := 14) hx hb dX2_edge_50 (by decide) ?_
          exact ih14 x13 y3_4 y2_5 (by first | omega | omega) ⟨by first | decide | omega, by first | decide | omega⟩ _ (lv_sub hl [0, 1, 2, 3, 4] rfl)
        · have b16 : 0 < y3_4.toInt := hw_inle c11
          refine lv_iload_n hx hb dX2_edge_25 rfl (lv_at hl 2 rfl) ?_
          refine lv_iload hx hb dX2_edge_26 (lv_at hl 0 rfl) ?_
          refine lv_ishr hx hb dX2_edge_28 ?_
          refine lv_topi (fun x17 e18 => ?_)
          refine lv_iconst (v := 1) hx hb dX2_edge_29 (by decide) ?_
          refine lv_iand hx hb dX2_edge_30 ?_
          refine lv_topi (fun x19 e20 => ?_)
          have t21 : 0 ≤ x19.toInt ∧ x19.toInt ≤ 1 := by rw [e20]; exact hw_and (by first | decide | omega)
          refine lv_iconst (v := 1) hx hb dX2_edge_31 (by decide) ?_
          refine lv_icmp_ne (tgt := 47) hx hb dX2_edge_32 (by decide) (fun c22 => ?_) (fun c22 => ?_)
          · have b23 : x19.toInt ≠ 1 := hw_ine c22
            obtain ⟨x24, e25⟩ : ∃ y : Int32, y = y4_3 + 1 := ⟨_, rfl⟩
            refine lv_iinc (v := x24) (lv' := [(4, .int x24), (3, .int y3_4), (2, .int y2_5), (0, .ref h0), (1, .int p1)]) hx hb dX2_edge_47 hl (k := 0) rfl (by rw [e25]; rfl) (by decide) rfl (fun ls hl => ?_)
            have t26 : x24.toInt = y4_3.toInt + 1 := by rw [e25]; exact hw_add rfl rfl (by omega) (by omega)
            refine lv_goto (tgt := 14) hx hb dX2_edge_50 (by decide) ?_
            exact ih14 x24 y3_4 y2_5 (by first | omega | omega) ⟨by first | decide | omega, by first | decide | omega⟩ _ (lv_sub hl [0, 1, 2, 3, 4] rfl)
          · have b27 : x19.toInt = 1 := hw_ieq c22
            refine lv_iload_n hx hb dX2_edge_35 rfl (lv_at hl 2 rfl) ?_
            refine lv_iconst (v := 1) hx hb dX2_edge_36 (by decide) ?_
            refine lv_iload hx hb dX2_edge_37 (lv_at hl 0 rfl) ?_
            refine lv_ishl hx hb dX2_edge_39 ?_
            refine lv_topi (fun x28 e29 => ?_)
            have t30 : 1 ≤ x28.toInt ∧ x28.toInt ≤ 256 := by rw [e29]; exact hw_sh1b 8 (by decide) (by first | decide | omega) (by first | decide | omega)
            refine lv_iconst (v := (-1)) hx hb dX2_edge_40 (by decide) ?_
            refine lv_ixor hx hb dX2_edge_41 ?_
            refine lv_topi (fun x31 e32 => ?_)
            refine lv_iand hx hb dX2_edge_42 ?_
            refine lv_topi (fun x33 e34 => ?_)
            refine lv_istore_n (lv' := [(2, .int x33), (4, .int y4_3), (3, .int y3_4), (0, .ref h0), (1, .int p1)]) hx hb dX2_edge_43 rfl hl (by decide) rfl (fun ls hl => ?_)
            obtain ⟨x35, e36⟩ : ∃ y : Int32, y = y3_4 + (-1) := ⟨_, rfl⟩
            refine lv_iinc (v := x35) (lv' := [(3, .int x35), (2, .int x33), (4, .int y4_3), (0, .ref h0), (1, .int p1)]) hx hb dX2_edge_44 hl (k := 2) rfl (by rw [e36]; rfl) (by decide) rfl (fun ls hl => ?_)
            have rg37 := hw_rng y3_4
            have t38 : x35.toInt = y3_4.toInt + (-1) := by rw [e36]; exact hw_add rfl rfl (by omega) (by omega)
            obtain ⟨x39, e40⟩ : ∃ y : Int32, y = y4_3 + 1 := ⟨_, rfl⟩
            refine lv_iinc (v := x39) (lv' := [(4, .int x39), (3, .int x35), (2, .int x33), (0, .ref h0), (1, .int p1)]) hx hb dX2_edge_47 hl (k := 2) rfl (by rw [e40]; rfl) (by decide) rfl (fun ls hl => ?_)
            have t41 : x39.toInt = y4_3.toInt + 1 := by rw [e40]; exact hw_add rfl rfl (by omega) (by omega)
            refine lv_goto (tgt := 14) hx hb dX2_edge_50 (by decide) ?_
            exact ih14 x39 x35 x33 (by first | omega | omega) ⟨by first | decide | omega, by first | decide | omega⟩ _ (lv_sub hl [0, 1, 2, 3, 4] rfl)
  exact L14 _ 0 mk_a x1 (Nat.lt_succ_self _) ⟨by first | decide | omega, by first | decide | omega⟩ _ (lv_sub hl [0, 1, 2, 3, 4] rfl)

set_option maxHeartbeats 4000000 in
set_option maxRecDepth 100000 in
theorem k_X8_edge (l : Launch) (D : hw_D) (G : Nat → Nat) (h0 : Nat) (p1 : Int32) (sz : Nat) (ci_a : Nat) (cu_a mk_a : Int32) (G0 : G h0 = 3) (hci : ci_a = 7) : Met l yX8_edge wsX8_edge ({ frames := 2, cells := 0, slots := 0, locals := 42 } : Room) (hw_PC D G [.ref h0, .int p1] sz (fun H => va_at D.1 vwCl (h0, .inr (ci_a, [.int cu_a, .int mk_a])) H)) (hw_QR (fun v => ∃ (r : Int32), v = .int r)) 0 0 (fun _ => False) := by
  refine hw_met (cc := cX8_edge) (maxL := 5) (ret := (some .int)) (plainFor_of_name (by decide)) rfl (Nat.le_of_ble_eq_true rfl) ?_
  intro p e s m args below meth c QQ ls hsz hx hb hml hr hts hown hlocks hnm hH hK hST hF hQ hl
  subst hsz
  have hS : va_S (hw_AW G [] s.heap.size) s.heap s.heap [] := va_S.rf
  have va := hF
  have hl : lv_has ls 5 [(0, .ref h0), (1, .int p1)] := hl
  have u_7 : ∀ w ∈ u_ws RX8 TX8 2, w.before args s = true := fun w hw => hts w ((by decide +kernel : ∀ w ∈ u_ws RX8 TX8 2, w ∈ wsX8_edge) w hw)
  have fg_13_7 : hw_FG s args m 13 7 1 := ⟨RX8, "WardWalkers$Rusty", RX8, TX8, 2, u_7, hown, rfl, by decide, (hts (.fieldLink RX8 13 "WardWalkers$Rusty" "mark" "I") (by decide +kernel)), (fun x9 h9 => u_same (hts (.sameField "WardWalkers$Rusty" "WardWalkers$Key" "mark" "I") (by decide +kernel)) x9 h9)⟩
  rcases hci with rfl
  refine lv_aload_n hx hb dX8_edge_0 rfl (lv_at hl 0 rfl) ?_
  refine lv_iload_n hx hb dX8_edge_1 rfl (lv_at hl 1 rfl) ?_
  refine hw_cR (va_runSU (As := [.int p1]) (rest := []) (hK.1 7 _ rfl).2 ⟨hx, hb, hml, hown, hts⟩ (k_X0_edge l D G h0 p1 _ 7 cu_a mk_a G0 (by first | assumption | decide | omega)) (va_cwSU 1 hts gX8_edge_X0_edge_s9 rfl rfl rfl (by decide +kernel) ⟨Nat.le_of_ble_eq_true rfl, Nat.le_of_ble_eq_true rfl⟩) (hw_pV (hw_rc (q := (RX8, TX8, 2)) hK va rfl) hH hK hST hS (by decide) (fun _ h => Or.inl h) va) rfl rfl hl.1 rfl (lv_room (Nat.le_of_ble_eq_true rfl)) dX8_edge_2 ⟨Nat.le_of_ble_eq_true rfl, Nat.le_of_ble_eq_true rfl⟩) (fun v hp => ?_)
  obtain ⟨x1, rfl⟩ := hp
  refine lv_istore_n (lv' := [(2, .int x1), (0, .ref h0), (1, .int p1)]) hx hb dX8_edge_5 rfl hl (by decide) rfl (fun ls hl => ?_)
  refine lv_aload_n hx hb dX8_edge_6 rfl (lv_at hl 1 rfl) ?_
  refine hw_get hx hb fg_13_7 hK va rfl dX8_edge_7 ?_
  refine lv_istore_n (lv' := [(3, .int mk_a), (2, .int x1), (0, .ref h0), (1, .int p1)]) hx hb dX8_edge_10 rfl hl (by decide) rfl (fun ls hl => ?_)
  refine lv_bipush (v := 8) hx hb dX8_edge_11 (by decide) ?_
  refine lv_istore (lv' := [(4, .int 8), (3, .int mk_a), (2, .int x1), (0, .ref h0), (1, .int p1)]) hx hb dX8_edge_13 hl (by decide) rfl (fun ls hl => ?_)
  have L15 : ∀ (n6 : Nat) (y4_2 : Int32) (y3_3 : Int32) (y2_4 : Int32) (hm : (y4_2.toInt + 1).toNat < n6) (g5 : (-1) ≤ y4_2.toInt ∧ y4_2.toInt ≤ 8) (ls : Array Slot) (hl : lv_has ls 5 [(4, .int y4_2), (3, .int y3_3), (2, .int y2_4), (0, .ref h0), (1, .int p1)]), W p l e ({ frames := 2, cells := 0, slots := 0, locals := 42 } : Room) s m args below meth c s.heap [] 0 0 QQ (F0 m 15 ls []) := by
    intro n6
    induction n6 with
    | zero => intro y4_2 y3_3 y2_4 hm; exact absurd hm (Nat.not_lt_zero _)
    | succ n6 ih15 =>
      intro y4_2 y3_3 y2_4 hm g5 ls hl
      refine lv_iload hx hb dX8_edge_15 (lv_at hl 0 rfl) ?_
      refine lv_if_lt (tgt := 52) hx hb dX8_edge_17 (by decide) (fun c7 => ?_) (fun c7 => ?_)
      · have b8 : y4_2.toInt < 0 := hw_ilt c7
        refine lv_iload_n hx hb dX8_edge_52 rfl (lv_at hl 2 rfl) ?_
        exact hw_iretR (v := y2_4) hx hb hr hlocks hQ rfl (⟨y2_4, rfl⟩) dX8_edge_53
      · have b9 : 0 ≤ y4_2.toInt := hw_inlt c7
        refine lv_iload_n hx hb dX8_edge_20 rfl (lv_at hl 1 rfl) ?_
        refine lv_if_le (tgt := 46) hx hb dX8_edge_21 (by decide) (fun c10 => ?_) (fun c10 => ?_)
        · have b11 : y3_3.toInt ≤ 0 := hw_ile c10
          obtain ⟨x12, e13⟩ : ∃ y : Int32, y = y4_2 + (-1) := ⟨_, rfl⟩
          refine lv_iinc (v := x12) (lv' := [(4, .int x12), (3, .int y3_3), (2, .int y2_4), (0, .ref h0), (1, .int p1)]) hx hb dX8_edge_46 hl (k := 0) rfl (by rw [e13]; rfl) (by decide) rfl (fun ls hl => ?_)
          have t14 : x12.toInt = y4_2.toInt + (-1) := by rw [e13]; exact hw_add rfl rfl (by omega) (by omega)
          refine lv_goto (tgt := 15) hx hb dX8_edge_49 (by decide) ?_
          exact ih15 x12 y3_3 y2_4 (by first | omega | omega) ⟨by first | decide | omega, by first | decide | omega⟩ _ (lv_sub hl [0, 1, 2, 3, 4] rfl)
        · have b15 : 0 < y3_3.toInt := hw_inle c10
          refine lv_iload_n hx hb dX8_edge_24 rfl (lv_at hl 2 rfl) ?_
          refine lv_iload hx hb dX8_edge_25 (lv_at hl 0 rfl) ?_
          refine lv_ishr hx hb dX8_edge_27 ?_
          refine lv_topi (fun x16 e17 => ?_)
          refine lv_iconst (v := 1) hx hb dX8_edge_28 (by decide) ?_
          refine lv_iand hx hb dX8_edge_29 ?_
          refine lv_topi (fun x18 e19 => ?_)
          have t20 : 0 ≤ x18.toInt ∧ x18.toInt ≤ 1 := by rw [e19]; exact hw_and (by first | decide | omega)
          refine lv_iconst (v := 1) hx hb dX8_edge_30 (by decide) ?_
          refine lv_icmp_ne (tgt := 46) hx hb dX8_edge_31 (by decide) (fun c21 => ?_) (fun c21 => ?_)
          · have b22 : x18.toInt ≠ 1 := hw_ine c21
            obtain ⟨x23, e24⟩ : ∃ y : Int32, y = y4_2 + (-1) := ⟨_, rfl⟩
            refine lv_iinc (v := x23) (lv' := [(4, .int x23), (3, .int y3_3), (2, .int y2_4), (0, .ref h0), (1, .int p1)]) hx hb dX8_edge_46 hl (k := 0) rfl (by rw [e24]; rfl) (by decide) rfl (fun ls hl => ?_)
            have t25 : x23.toInt = y4_2.toInt + (-1) := by rw [e24]; exact hw_add rfl rfl (by omega) (by omega)
            refine lv_goto (tgt := 15) hx hb dX8_edge_49 (by decide) ?_
            exact ih15 x23 y3_3 y2_4 (by first | omega | omega) ⟨by first | decide | omega, by first | decide | omega⟩ _ (lv_sub hl [0, 1, 2, 3, 4] rfl)
          · have b26 : x18.toInt = 1 := hw_ieq c21
            refine lv_iload_n hx hb dX8_edge_34 rfl (lv_at hl 2 rfl) ?_
            refine lv_iconst (v := 1) hx hb dX8_edge_35 (by decide) ?_
            refine lv_iload hx hb dX8_edge_36 (lv_at hl 0 rfl) ?_
            refine lv_ishl hx hb dX8_edge_38 ?_
            refine lv_topi (fun x27 e28 => ?_)
            have t29 : 1 ≤ x27.toInt ∧ x27.toInt ≤ 256 := by rw [e28]; exact hw_sh1b 8 (by decide) (by first | decide | omega) (by first | decide | omega)
            refine lv_iconst (v := (-1)) hx hb dX8_edge_39 (by decide) ?_
            refine lv_ixor hx hb dX8_edge_40 ?_
            refine lv_topi (fun x30 e31 => ?_)
            refine lv_iand hx hb dX8_edge_41 ?_
            refine lv_topi (fun x32 e33 => ?_)
            refine lv_istore_n (lv' := [(2, .int x32), (4, .int y4_2), (3, .int y3_3), (0, .ref h0), (1, .int p1)]) hx hb dX8_edge_42 rfl hl (by decide) rfl (fun ls hl => ?_)
            obtain ⟨x34, e35⟩ : ∃ y : Int32, y = y3_3 + (-1) := ⟨_, rfl⟩
            refine lv_iinc (v := x34) (lv' := [(3, .int x34), (2, .int x32), (4, .int y4_2), (0, .ref h0), (1, .int p1)]) hx hb dX8_edge_43 hl (k := 2) rfl (by rw [e35]; rfl) (by decide) rfl (fun ls hl => ?_)
            have rg36 := hw_rng y3_3
            have t37 : x34.toInt = y3_3.toInt + (-1) := by rw [e35]; exact hw_add rfl rfl (by omega) (by omega)
            obtain ⟨x38, e39⟩ : ∃ y : Int32, y = y4_2 + (-1) := ⟨_, rfl⟩
            refine lv_iinc (v := x38) (lv' := [(4, .int x38), (3, .int x34), (2, .int x32), (0, .ref h0), (1, .int p1)]) hx hb dX8_edge_46 hl (k := 2) rfl (by rw [e39]; rfl) (by decide) rfl (fun ls hl => ?_)
            have t40 : x38.toInt = y4_2.toInt + (-1) := by rw [e39]; exact hw_add rfl rfl (by omega) (by omega)
            refine lv_goto (tgt := 15) hx hb dX8_edge_49 (by decide) ?_
            exact ih15 x38 x34 x32 (by first | omega | omega) ⟨by first | decide | omega, by first | decide | omega⟩ _ (lv_sub hl [0, 1, 2, 3, 4] rfl)
  exact L15 _ 8 mk_a x1 (Nat.lt_succ_self _) ⟨by first | decide | omega, by first | decide | omega⟩ _ (lv_sub hl [0, 1, 2, 3, 4] rfl)

set_option maxHeartbeats 4000000 in
set_option maxRecDepth 100000 in
theorem k_X8_room (l : Launch) (D : hw_D) (G : Nat → Nat) (h0 : Nat) (p1 : Int32) (sz : Nat) (ci_a : Nat) (cu_a mk_a : Int32) (G0 : G h0 = 3) (hci : ci_a = 7) : Met l yX8_room wsX8_room ({ frames := 1, cells := 0, slots := 0, locals := 21 } : Room) (hw_PC D G [.ref h0, .int p1] sz (fun H => va_at D.1 vwCl (h0, .inr (ci_a, [.int cu_a, .int mk_a])) H)) (hw_QR (fun v => ∃ (r : Int32), v = .int r)) 0 0 (fun _ => False) := by
  refine hw_met (cc := cX8_room) (maxL := 2) (ret := (some .int)) (plainFor_of_name (by decide)) rfl (Nat.le_of_ble_eq_true rfl) ?_
  intro p e s m args below meth c QQ ls hsz hx hb hml hr hts hown hlocks hnm hH hK hST hF hQ hl
  subst hsz
  have hS : va_S (hw_AW G [] s.heap.size) s.heap s.heap [] := va_S.rf
  have va := hF
  have hl : lv_has ls 2 [(0, .ref h0), (1, .int p1)] := hl
  rcases hci with rfl
  refine lv_aload_n hx hb dX8_room_0 rfl (lv_at hl 0 rfl) ?_
  refine lv_iload_n hx hb dX8_room_1 rfl (lv_at hl 1 rfl) ?_
  refine hw_cR (va_runSU (As := [.int p1]) (rest := []) (hK.1 7 _ rfl).2 ⟨hx, hb, hml, hown, hts⟩ (k_X0_room l D G h0 p1 _ G0) (va_cwSU 1 hts gX8_room_X0_room_s19 rfl rfl rfl (by decide +kernel) ⟨Nat.le_of_ble_eq_true rfl, Nat.le_of_ble_eq_true rfl⟩) (hw_pV (hw_rc (q := (RX8, TX8, 2)) hK va rfl) hH hK hST hS (by decide) (fun _ h => Or.inl h) trivial) rfl rfl hl.1 rfl (lv_room (Nat.le_of_ble_eq_true rfl)) dX8_room_2 ⟨Nat.le_of_ble_eq_true rfl, Nat.le_of_ble_eq_true rfl⟩) (fun v hp => ?_)
  obtain ⟨x1, rfl⟩ := hp
  refine lv_iconst (v := 1) hx hb dX8_room_5 (by decide) ?_
  refine lv_iadd hx hb dX8_room_6 ?_
  refine lv_topi (fun x2 e3 => ?_)
  exact hw_iretR (v := x2) hx hb hr hlocks hQ rfl (⟨x2, rfl⟩) dX8_room_7

set_option maxHeartbeats 4000000 in
set_option maxRecDepth 100000 in
theorem k_X4_lackingIn (l : Launch) (D : hw_D) (G : Nat → Nat) (h0 : Nat) (p1 : Int32) (sz : Nat) (G0 : G h0 = 4) : Met l yX4_lackingIn wsX4_lackingIn ({ frames := 1, cells := 0, slots := 0, locals := 20 } : Room) (hw_PC D G [.ref h0, .int p1] sz (fun H => True)) (hw_QR (fun v => ∃ (r : Int32), v = .int r)) 0 0 (fun _ => False) := by
  refine hw_met (cc := cX4_lackingIn) (maxL := 2) (ret := (some .int)) (plainFor_of_name (by decide)) rfl (Nat.le_of_ble_eq_true rfl) ?_
  intro p e s m args below meth c QQ ls hsz hx hb hml hr hts hown hlocks hnm hH hK hST hF hQ hl
  subst hsz
  have hS : va_S (hw_AW G [] s.heap.size) s.heap s.heap [] := va_S.rf
  have hl : lv_has ls 2 [(0, .ref h0), (1, .int p1)] := hl
  have u_3 : ∀ w ∈ u_ws RX4 TX4 4, w.before args s = true := fun w hw => hts w ((by decide +kernel : ∀ w ∈ u_ws RX4 TX4 4, w ∈ wsX4_lackingIn) w hw)
  have fg_13_3 : hw_FG s args m 13 3 1 := ⟨RX4, "WardWalkers$Lock", RX4, TX4, 4, u_3, hown, rfl, by decide, (hts (.fieldLink RX4 13 "WardWalkers$Lock" "wanted" "I") (by decide +kernel)), (fun _ h9 => h9)⟩
  refine lv_aload_n hx hb dX4_lackingIn_0 rfl (lv_at hl 0 rfl) ?_
  obtain ⟨r1, pl_2, wa_3, py_4, va_5, v6⟩ := hH.oL G0
  refine hw_get hx hb fg_13_3 hK v6 rfl dX4_lackingIn_1 ?_
  refine lv_iload_n hx hb dX4_lackingIn_4 rfl (lv_at hl 1 rfl) ?_
  refine lv_iconst (v := (-1)) hx hb dX4_lackingIn_5 (by decide) ?_
  refine lv_ixor hx hb dX4_lackingIn_6 ?_
  refine lv_topi (fun x8 e9 => ?_)
  refine lv_iand hx hb dX4_lackingIn_7 ?_
  refine lv_topi (fun x10 e11 => ?_)
  refine hw_cR (va_runS (As := [.int x10]) (rest := []) ⟨hx, hb, hml, hown, hts⟩ (k_J6_bitCount_0f7a4 l D G x10 _) (va_cwS 1 hts gX4_lackingIn_J6_bitCount_0f7a4 rfl rfl rfl (by decide +kernel) ⟨Nat.le_of_ble_eq_true rfl, Nat.le_of_ble_eq_true rfl⟩) (hw_pS hH hK hST hS (by decide) (fun _ h => Or.inl h) trivial) rfl rfl hl.1 rfl (lv_room (Nat.le_of_ble_eq_true rfl)) dX4_lackingIn_8 ⟨Nat.le_of_ble_eq_true rfl, Nat.le_of_ble_eq_true rfl⟩) (fun v hp => ?_)
  obtain ⟨x12, rfl, g13⟩ := hp
  exact hw_iretR (v := x12) hx hb hr hlocks hQ rfl (⟨x12, rfl⟩) dX4_lackingIn_11

set_option maxHeartbeats 4000000 in
set_option maxRecDepth 100000 in
theorem k_X4_overIn (l : Launch) (D : hw_D) (G : Nat → Nat) (h0 : Nat) (p1 : Int32) (sz : Nat) (G0 : G h0 = 4) : Met l yX4_overIn wsX4_overIn ({ frames := 1, cells := 0, slots := 0, locals := 20 } : Room) (hw_PC D G [.ref h0, .int p1] sz (fun H => True)) (hw_QR (fun v => ∃ (r : Int32), v = .int r)) 0 0 (fun _ => False) := by
  refine hw_met (cc := cX4_overIn) (maxL := 2) (ret := (some .int)) (plainFor_of_name (by decide)) rfl (Nat.le_of_ble_eq_true rfl) ?_
  intro p e s m args below meth c QQ ls hsz hx hb hml hr hts hown hlocks hnm hH hK hST hF hQ hl
  subst hsz
  have hS : va_S (hw_AW G [] s.heap.size) s.heap s.heap [] := va_S.rf
  have hl : lv_has ls 2 [(0, .ref h0), (1, .int p1)] := hl
  have u_3 : ∀ w ∈ u_ws RX4 TX4 4, w.before args s = true := fun w hw => hts w ((by decide +kernel : ∀ w ∈ u_ws RX4 TX4 4, w ∈ wsX4_overIn) w hw)
  have fg_13_3 : hw_FG s args m 13 3 1 := ⟨RX4, "WardWalkers$Lock", RX4, TX4, 4, u_3, hown, rfl, by decide, (hts (.fieldLink RX4 13 "WardWalkers$Lock" "wanted" "I") (by decide +kernel)), (fun _ h9 => h9)⟩
  refine lv_iload_n hx hb dX4_overIn_0 rfl (lv_at hl 1 rfl) ?_
  refine lv_aload_n hx hb dX4_overIn_1 rfl (lv_at hl 0 rfl) ?_
  obtain ⟨r1, pl_2, wa_3, py_4, va_5, v6⟩ := hH.oL G0
  refine hw_get hx hb fg_13_3 hK v6 rfl dX4_overIn_2 ?_
  refine lv_iconst (v := (-1)) hx hb dX4_overIn_5 (by decide) ?_
  refine lv_ixor hx hb dX4_overIn_6 ?_
  refine lv_topi (fun x8 e9 => ?_)
  refine lv_iand hx hb dX4_overIn_7 ?_
  refine lv_topi (fun x10 e11 => ?_)
  refine hw_cR (va_runS (As := [.int x10]) (rest := []) ⟨hx, hb, hml, hown, hts⟩ (k_J6_bitCount_0f7a4 l D G x10 _) (va_cwS 1 hts gX4_overIn_J6_bitCount_0f7a4 rfl rfl rfl (by decide +kernel) ⟨Nat.le_of_ble_eq_true rfl, Nat.le_of_ble_eq_true rfl⟩) (hw_pS hH hK hST hS (by decide) (fun _ h => Or.inl h) trivial) rfl rfl hl.1 rfl (lv_room (Nat.le_of_ble_eq_true rfl)) dX4_overIn_8 ⟨Nat.le_of_ble_eq_true rfl, Nat.le_of_ble_eq_true rfl⟩) (fun v hp => ?_)
  obtain ⟨x12, rfl, g13⟩ := hp
  exact hw_iretR (v := x12) hx hb hr hlocks hQ rfl (⟨x12, rfl⟩) dX4_overIn_11

set_option maxHeartbeats 4000000 in
set_option maxRecDepth 100000 in
theorem k_X4_letsIn (l : Launch) (D : hw_D) (G : Nat → Nat) (h0 : Nat) (p1 : Nat) (p2 : Int32) (sz : Nat) (G0 : G h0 = 4) (G1 : G p1 = 3) : Met l yX4_letsIn wsX4_letsIn ({ frames := 3, cells := 0, slots := 0, locals := 66 } : Room) (hw_PC D G [.ref h0, .ref p1, .int p2] sz (fun H => True)) (hw_QR (fun v => (v = .int 1) ∨ (v = .int 0))) 0 0 (fun _ => False) := by
  refine hw_met (cc := cX4_letsIn) (maxL := 4) (ret := (some .boolean)) (plainFor_of_name (by decide)) rfl (Nat.le_of_ble_eq_true rfl) ?_
  intro p e s m args below meth c QQ ls hsz hx hb hml hr hts hown hlocks hnm hH hK hST hF hQ hl
  subst hsz
  have hS : va_S (hw_AW G [] s.heap.size) s.heap s.heap [] := va_S.rf
  have hl : lv_has ls 4 [(0, .ref h0), (1, .ref p1), (2, .int p2)] := hl
  have u_3 : ∀ w ∈ u_ws RX4 TX4 4, w.before args s = true := fun w hw => hts w ((by decide +kernel : ∀ w ∈ u_ws RX4 TX4 4, w ∈ wsX4_letsIn) w hw)
  have fg_16_3 : hw_FG s args m 16 3 2 := ⟨RX4, "WardWalkers$Lock", RX4, TX4, 4, u_3, hown, rfl, by decide, (hts (.fieldLink RX4 16 "WardWalkers$Lock" "play" "I") (by decide +kernel)), (fun _ h9 => h9)⟩
  refine lv_aload_n hx hb dX4_letsIn_0 rfl (lv_at hl 1 rfl) ?_
  refine lv_iload_n hx hb dX4_letsIn_1 rfl (lv_at hl 2 rfl) ?_
  obtain ⟨ci1, cu2, mk3, c5, v4⟩ := hH.oKey G1
  rcases c5 with rfl | rfl | rfl | rfl
  · refine hw_cR (va_runU (As := [.int p2]) (rest := []) ⟨hx, hb, hml, hown, hts⟩ (k_X0_edge l D G p1 p2 _ 0 cu2 mk3 G1 (by first | assumption | decide | omega)) (va_cwA 1 hts gX4_letsIn_X0_edge_u28X0 rfl rfl rfl (hw_ed_edge hST.ex) (by decide +kernel) ⟨Nat.le_of_ble_eq_true rfl, Nat.le_of_ble_eq_true rfl⟩) (hw_pV (hw_rc (q := (RX0, TX0, 2)) hK v4 rfl) hH hK hST hS (by decide) (fun _ h => Or.inl h) v4) rfl rfl hl.1 rfl (lv_room (Nat.le_of_ble_eq_true rfl)) dX4_letsIn_2 ⟨Nat.le_of_ble_eq_true rfl, Nat.le_of_ble_eq_true rfl⟩) (fun v hp => ?_)
    obtain ⟨x6, rfl⟩ := hp
    refine lv_istore_n (lv' := [(3, .int x6), (0, .ref h0), (1, .ref p1), (2, .int p2)]) hx hb dX4_letsIn_5 rfl hl (by decide) rfl (fun ls hl => ?_)
    refine lv_aload_n hx hb dX4_letsIn_6 rfl (lv_at hl 1 rfl) ?_
    refine lv_iload_n hx hb dX4_letsIn_7 rfl (lv_at hl 0 rfl) ?_
    obtain ⟨r7, pl_8, wa_9, py_10, va_11, v12⟩ := hH.oL G0
    refine hw_cR (va_runV (As := [.int x6]) (rest := []) ⟨hx, hb, hml, hown, hts⟩ (k_X4_lackingIn l D G h0 x6 _ G0) (cwV 1 hts gX4_letsIn_X4_lackingIn rfl rfl rfl (by decide +kernel) ⟨Nat.le_of_ble_eq_true rfl, Nat.le_of_ble_eq_true rfl⟩) (hw_pV (hw_rc (q := (RX4, TX4, 4)) hK v12 rfl) hH hK hST hS (by decide) (fun _ h => Or.inl h) trivial) rfl rfl hl.1 rfl (lv_room (Nat.le_of_ble_eq_true rfl)) dX4_letsIn_8 ⟨Nat.le_of_ble_eq_true rfl, Nat.le_of_ble_eq_true rfl⟩) (fun v hp => ?_)
    obtain ⟨x14, rfl⟩ := hp
    refine lv_if_ne (tgt := 34) hx hb dX4_letsIn_11 (by decide) (fun c15 => ?_) (fun c15 => ?_)
    · have b16 : x14.toInt ≠ 0 := hw_ine c15
      refine lv_iconst (v := 0) hx hb dX4_letsIn_34 (by decide) ?_
      exact hw_iretR (v := 0) hx hb hr hlocks hQ rfl (Or.inr (rfl)) dX4_letsIn_35
    · have b17 : x14.toInt = 0 := hw_ieq c15
      refine lv_aload_n hx hb dX4_letsIn_14 rfl (lv_at hl 1 rfl) ?_
      refine lv_iload_n hx hb dX4_letsIn_15 rfl (lv_at hl 0 rfl) ?_
      refine hw_cR (va_runV (As := [.int x6]) (rest := []) ⟨hx, hb, hml, hown, hts⟩ (k_X4_overIn l D G h0 x6 _ G0) (cwV 1 hts gX4_letsIn_X4_overIn rfl rfl rfl (by decide +kernel) ⟨Nat.le_of_ble_eq_true rfl, Nat.le_of_ble_eq_true rfl⟩) (hw_pV (hw_rc (q := (RX4, TX4, 4)) hK v12 rfl) hH hK hST hS (by decide) (fun _ h => Or.inl h) trivial) rfl rfl hl.1 rfl (lv_room (Nat.le_of_ble_eq_true rfl)) dX4_letsIn_16 ⟨Nat.le_of_ble_eq_true rfl, Nat.le_of_ble_eq_true rfl⟩) (fun v hp => ?_)
      obtain ⟨x18, rfl⟩ := hp
      refine lv_aload_n hx hb dX4_letsIn_19 rfl (lv_at hl 2 rfl) ?_
      refine lv_aload_n hx hb dX4_letsIn_20 rfl (lv_at hl 1 rfl) ?_
      refine hw_get hx hb fg_16_3 hK v12 rfl dX4_letsIn_21 ?_
      refine hw_cR (va_runU (As := [.int py_10]) (rest := [.int x18]) ⟨hx, hb, hml, hown, hts⟩ (k_X0_room l D G p1 py_10 _ G1) (va_cwA 1 hts gX4_letsIn_X0_room_u39X0 rfl rfl rfl (hw_ed_room hST.ex) (by decide +kernel) ⟨Nat.le_of_ble_eq_true rfl, Nat.le_of_ble_eq_true rfl⟩) (hw_pV (hw_rc (q := (RX0, TX0, 2)) hK v4 rfl) hH hK hST hS (by decide) (fun _ h => Or.inl h) trivial) rfl rfl hl.1 rfl (lv_room (Nat.le_of_ble_eq_true rfl)) dX4_letsIn_24 ⟨Nat.le_of_ble_eq_true rfl, Nat.le_of_ble_eq_true rfl⟩) (fun v hp => ?_)
      obtain ⟨x19, rfl⟩ := hp
      refine lv_icmp_gt (tgt := 34) hx hb dX4_letsIn_27 (by decide) (fun c20 => ?_) (fun c20 => ?_)
      · have b21 : x19.toInt < x18.toInt := hw_ilt c20
        refine lv_iconst (v := 0) hx hb dX4_letsIn_34 (by decide) ?_
        exact hw_iretR (v := 0) hx hb hr hlocks hQ rfl (Or.inr (rfl)) dX4_letsIn_35
      · have b22 : x18.toInt ≤ x19.toInt := hw_inlt c20
        refine lv_iconst (v := 1) hx hb dX4_letsIn_30 (by decide) ?_
        refine lv_goto (tgt := 35) hx hb dX4_letsIn_31 (by decide) ?_
        exact hw_iretR (v := 1) hx hb hr hlocks hQ rfl (Or.inl rfl) dX4_letsIn_35
  · refine hw_cR (va_runU (As := [.int p2]) (rest := []) ⟨hx, hb, hml, hown, hts⟩ (k_X2_edge l D G p1 p2 _ 2 cu2 mk3 G1 (by first | assumption | decide | omega)) (va_cwA 1 hts gX4_letsIn_X2_edge_u28X2 rfl rfl rfl (hw_ed_edge hST.ex) (by decide +kernel) ⟨Nat.le_of_ble_eq_true rfl, Nat.le_of_ble_eq_true rfl⟩) (hw_pV (hw_rc (q := (RX2, TX2, 2)) hK v4 rfl) hH hK hST hS (by decide) (fun _ h => Or.inl h) v4) rfl rfl hl.1 rfl (lv_room (Nat.le_of_ble_eq_true rfl)) dX4_letsIn_2 ⟨Nat.le_of_ble_eq_true rfl, Nat.le_of_ble_eq_true rfl⟩) (fun v hp => ?_)
    obtain ⟨x23, rfl⟩ := hp
    refine lv_istore_n (lv' := [(3, .int x23), (0, .ref h0), (1, .ref p1), (2, .int p2)]) hx hb dX4_letsIn_5 rfl hl (by decide) rfl (fun ls hl => ?_)
    refine lv_aload_n hx hb dX4_letsIn_6 rfl (lv_at hl 1 rfl) ?_
    refine lv_iload_n hx hb dX4_letsIn_7 rfl (lv_at hl 0 rfl) ?_
    obtain ⟨r24, pl_25, wa_26, py_27, va_28, v29⟩ := hH.oL G0
    refine hw_cR (va_runV (As := [.int x23]) (rest := []) ⟨hx, hb, hml, hown, hts⟩ (k_X4_lackingIn l D G h0 x23 _ G0) (cwV 1 hts gX4_letsIn_X4_lackingIn rfl rfl rfl (by decide +kernel) ⟨Nat.le_of_ble_eq_true rfl, Nat.le_of_ble_eq_true rfl⟩) (hw_pV (hw_rc (q := (RX4, TX4, 4)) hK v29 rfl) hH hK hST hS (by decide) (fun _ h => Or.inl h) trivial) rfl rfl hl.1 rfl (lv_room (Nat.le_of_ble_eq_true rfl)) dX4_letsIn_8 ⟨Nat.le_of_ble_eq_true rfl, Nat.le_of_ble_eq_true rfl⟩) (fun v hp => ?_)
    obtain ⟨x31, rfl⟩ := hp
    refine lv_if_ne (tgt := 34) hx hb dX4_letsIn_11 (by decide) (fun c32 => ?_) (fun c32 => ?_)
    · have b33 : x31.toInt ≠ 0 := hw_ine c32
      refine lv_iconst (v := 0) hx hb dX4_letsIn_34 (by decide) ?_
      exact hw_iretR (v := 0) hx hb hr hlocks hQ rfl (Or.inr (rfl)) dX4_letsIn_35
    · have b34 : x31.toInt = 0 := hw_ieq c32
      refine lv_aload_n hx hb dX4_letsIn_14 rfl (lv_at hl 1 rfl) ?_
      refine lv_iload_n hx hb dX4_letsIn_15 rfl (lv_at hl 0 rfl) ?_
      refine hw_cR (va_runV (As := [.int x23]) (rest := []) ⟨hx, hb, hml, hown, hts⟩ (k_X4_overIn l D G h0 x23 _ G0) (cwV 1 hts gX4_letsIn_X4_overIn rfl rfl rfl (by decide +kernel) ⟨Nat.le_of_ble_eq_true rfl, Nat.le_of_ble_eq_true rfl⟩) (hw_pV (hw_rc (q := (RX4, TX4, 4)) hK v29 rfl) hH hK hST hS (by decide) (fun _ h => Or.inl h) trivial) rfl rfl hl.1 rfl (lv_room (Nat.le_of_ble_eq_true rfl)) dX4_letsIn_16 ⟨Nat.le_of_ble_eq_true rfl, Nat.le_of_ble_eq_true rfl⟩) (fun v hp => ?_)
      obtain ⟨x35, rfl⟩ := hp
      refine lv_aload_n hx hb dX4_letsIn_19 rfl (lv_at hl 2 rfl) ?_
      refine lv_aload_n hx hb dX4_letsIn_20 rfl (lv_at hl 1 rfl) ?_
      refine hw_get hx hb fg_16_3 hK v29 rfl dX4_letsIn_21 ?_
      refine hw_cR (va_runU (As := [.int py_27]) (rest := [.int x35]) ⟨hx, hb, hml, hown, hts⟩ (k_X2_room l D G p1 py_27 _ G1) (va_cwA 1 hts gX4_letsIn_X2_room_u39X2 rfl rfl rfl (hw_ed_room hST.ex) (by decide +kernel) ⟨Nat.le_of_ble_eq_true rfl, Nat.le_of_ble_eq_true rfl⟩) (hw_pV (hw_rc (q := (RX2, TX2, 2)) hK v4 rfl) hH hK hST hS (by decide) (fun _ h => Or.inl h) trivial) rfl rfl hl.1 rfl (lv_room (Nat.le_of_ble_eq_true rfl)) dX4_letsIn_24 ⟨Nat.le_of_ble_eq_true rfl, Nat.le_of_ble_eq_true rfl⟩) (fun v hp => ?_)
      obtain ⟨x36, rfl⟩ := hp
      refine lv_icmp_gt (tgt := 34) hx hb dX4_letsIn_27 (by decide) (fun c37 => ?_) (fun c37 => ?_)
      · have b38 : x36.toInt < x35.toInt := hw_ilt c37
        refine lv_iconst (v := 0) hx hb dX4_letsIn_34 (by decide) ?_
        exact hw_iretR (v := 0) hx hb hr hlocks hQ rfl (Or.inr (rfl)) dX4_letsIn_35
      · have b39 : x35.toInt ≤ x36.toInt := hw_inlt c37
        refine lv_iconst (v := 1) hx hb dX4_letsIn_30 (by decide) ?_
        refine lv_goto (tgt := 35) hx hb dX4_letsIn_31 (by decide) ?_
        exact hw_iretR (v := 1) hx hb hr hlocks hQ rfl (Or.inl rfl) dX4_letsIn_35
  · refine hw_cR (va_runU (As := [.int p2]) (rest := []) ⟨hx, hb, hml, hown, hts⟩ (k_X0_edge l D G p1 p2 _ 4 cu2 mk3 G1 (by first | assumption | decide | omega)) (va_cwA 1 hts gX4_letsIn_X0_edge_u28X5 rfl rfl rfl (hw_ed_edge hST.ex) (by decide +kernel) ⟨Nat.le_of_ble_eq_true rfl, Nat.le_of_ble_eq_true rfl⟩) (hw_pV (hw_rc (q := (RX5, TX5, 2)) hK v4 rfl) hH hK hST hS (by decide) (fun _ h => Or.inl h) v4) rfl rfl hl.1 rfl (lv_room (Nat.le_of_ble_eq_true rfl)) dX4_letsIn_2 ⟨Nat.le_of_ble_eq_true rfl, Nat.le_of_ble_eq_true rfl⟩) (fun v hp => ?_)
    obtain ⟨x40, rfl⟩ := hp
    refine lv_istore_n (lv' := [(3, .int x40), (0, .ref h0), (1, .ref p1), (2, .int p2)]) hx hb dX4_letsIn_5 rfl hl (by decide) rfl (fun ls hl => ?_)
    refine lv_aload_n hx hb dX4_letsIn_6 rfl (lv_at hl 1 rfl) ?_
    refine lv_iload_n hx hb dX4_letsIn_7 rfl (lv_at hl 0 rfl) ?_
    obtain ⟨r41, pl_42, wa_43, py_44, va_45, v46⟩ := hH.oL G0
    refine hw_cR (va_runV (As := [.int x40]) (rest := []) ⟨hx, hb, hml, hown, hts⟩ (k_X4_lackingIn l D G h0 x40 _ G0) (cwV 1 hts gX4_letsIn_X4_lackingIn rfl rfl rfl (by decide +kernel) ⟨Nat.le_of_ble_eq_true rfl, Nat.le_of_ble_eq_true rfl⟩) (hw_pV (hw_rc (q := (RX4, TX4, 4)) hK v46 rfl) hH hK hST hS (by decide) (fun _ h => Or.inl h) trivial) rfl rfl hl.1 rfl (lv_room (Nat.le_of_ble_eq_true rfl)) dX4_letsIn_8 ⟨Nat.le_of_ble_eq_true rfl, Nat.le_of_ble_eq_true rfl⟩) (fun v hp => ?_)
    obtain ⟨x48, rfl⟩ := hp
    refine lv_if_ne (tgt := 34) hx hb dX4_letsIn_11 (by decide) (fun c49 => ?_) (fun c49 => ?_)
    · have b50 : x48.toInt ≠ 0 := hw_ine c49
      refine lv_iconst (v := 0) hx hb dX4_letsIn_34 (by decide) ?_
      exact hw_iretR (v := 0) hx hb hr hlocks hQ rfl (Or.inr (rfl)) dX4_letsIn_35
    · have b51 : x48.toInt = 0 := hw_ieq c49
      refine lv_aload_n hx hb dX4_letsIn_14 rfl (lv_at hl 1 rfl) ?_
      refine lv_iload_n hx hb dX4_letsIn_15 rfl (lv_at hl 0 rfl) ?_
      refine hw_cR (va_runV (As := [.int x40]) (rest := []) ⟨hx, hb, hml, hown, hts⟩ (k_X4_overIn l D G h0 x40 _ G0) (cwV 1 hts gX4_letsIn_X4_overIn rfl rfl rfl (by decide +kernel) ⟨Nat.le_of_ble_eq_true rfl, Nat.le_of_ble_eq_true rfl⟩) (hw_pV (hw_rc (q := (RX4, TX4, 4)) hK v46 rfl) hH hK hST hS (by decide) (fun _ h => Or.inl h) trivial) rfl rfl hl.1 rfl (lv_room (Nat.le_of_ble_eq_true rfl)) dX4_letsIn_16 ⟨Nat.le_of_ble_eq_true rfl, Nat.le_of_ble_eq_true rfl⟩) (fun v hp => ?_)
      obtain ⟨x52, rfl⟩ := hp
      refine lv_aload_n hx hb dX4_letsIn_19 rfl (lv_at hl 2 rfl) ?_
      refine lv_aload_n hx hb dX4_letsIn_20 rfl (lv_at hl 1 rfl) ?_
      refine hw_get hx hb fg_16_3 hK v46 rfl dX4_letsIn_21 ?_
      refine hw_cR (va_runU (As := [.int py_44]) (rest := [.int x52]) ⟨hx, hb, hml, hown, hts⟩ (k_X5_room l D G p1 py_44 _ G1) (va_cwA 1 hts gX4_letsIn_X5_room_u39X5 rfl rfl rfl (hw_ed_room hST.ex) (by decide +kernel) ⟨Nat.le_of_ble_eq_true rfl, Nat.le_of_ble_eq_true rfl⟩) (hw_pV (hw_rc (q := (RX5, TX5, 2)) hK v4 rfl) hH hK hST hS (by decide) (fun _ h => Or.inl h) trivial) rfl rfl hl.1 rfl (lv_room (Nat.le_of_ble_eq_true rfl)) dX4_letsIn_24 ⟨Nat.le_of_ble_eq_true rfl, Nat.le_of_ble_eq_true rfl⟩) (fun v hp => ?_)
      obtain ⟨x53, rfl⟩ := hp
      refine lv_icmp_gt (tgt := 34) hx hb dX4_letsIn_27 (by decide) (fun c54 => ?_) (fun c54 => ?_)
      · have b55 : x53.toInt < x52.toInt := hw_ilt c54
        refine lv_iconst (v := 0) hx hb dX4_letsIn_34 (by decide) ?_
        exact hw_iretR (v := 0) hx hb hr hlocks hQ rfl (Or.inr (rfl)) dX4_letsIn_35
      · have b56 : x52.toInt ≤ x53.toInt := hw_inlt c54
        refine lv_iconst (v := 1) hx hb dX4_letsIn_30 (by decide) ?_
        refine lv_goto (tgt := 35) hx hb dX4_letsIn_31 (by decide) ?_
        exact hw_iretR (v := 1) hx hb hr hlocks hQ rfl (Or.inl rfl) dX4_letsIn_35
  · refine hw_cR (va_runU (As := [.int p2]) (rest := []) ⟨hx, hb, hml, hown, hts⟩ (k_X8_edge l D G p1 p2 _ 7 cu2 mk3 G1 (by first | assumption | decide | omega)) (va_cwA 1 hts gX4_letsIn_X8_edge_u28X8 rfl rfl rfl (hw_ed_edge hST.ex) (by decide +kernel) ⟨Nat.le_of_ble_eq_true rfl, Nat.le_of_ble_eq_true rfl⟩) (hw_pV (hw_rc (q := (RX8, TX8, 2)) hK v4 rfl) hH hK hST hS (by decide) (fun _ h => Or.inl h) v4) rfl rfl hl.1 rfl (lv_room (Nat.le_of_ble_eq_true rfl)) dX4_letsIn_2 ⟨Nat.le_of_ble_eq_true rfl, Nat.le_of_ble_eq_true rfl⟩) (fun v hp => ?_)
    obtain ⟨x57, rfl⟩ := hp
    refine lv_istore_n (lv' := [(3, .int x57), (0, .ref h0), (1, .ref p1), (2, .int p2)]) hx hb dX4_letsIn_5 rfl hl (by decide) rfl (fun ls hl => ?_)
    refine lv_aload_n hx hb dX4_letsIn_6 rfl (lv_at hl 1 rfl) ?_
    refine lv_iload_n hx hb dX4_letsIn_7 rfl (lv_at hl 0 rfl) ?_
    obtain ⟨r58, pl_59, wa_60, py_61, va_62, v63⟩ := hH.oL G0
    refine hw_cR (va_runV (As := [.int x57]) (rest := []) ⟨hx, hb, hml, hown, hts⟩ (k_X4_lackingIn l D G h0 x57 _ G0) (cwV 1 hts gX4_letsIn_X4_lackingIn rfl rfl rfl (by decide +kernel) ⟨Nat.le_of_ble_eq_true rfl, Nat.le_of_ble_eq_true rfl⟩) (hw_pV (hw_rc (q := (RX4, TX4, 4)) hK v63 rfl) hH hK hST hS (by decide) (fun _ h => Or.inl h) trivial) rfl rfl hl.1 rfl (lv_room (Nat.le_of_ble_eq_true rfl)) dX4_letsIn_8 ⟨Nat.le_of_ble_eq_true rfl, Nat.le_of_ble_eq_true rfl⟩) (fun v hp => ?_)
    obtain ⟨x65, rfl⟩ := hp
    refine lv_if_ne (tgt := 34) hx hb dX4_letsIn_11 (by decide) (fun c66 => ?_) (fun c66 => ?_)
    · have b67 : x65.toInt ≠ 0 := hw_ine c66
      refine lv_iconst (v := 0) hx hb dX4_letsIn_34 (by decide) ?_
      exact hw_iretR (v := 0) hx hb hr hlocks hQ rfl (Or.inr (rfl)) dX4_letsIn_35
    · have b68 : x65.toInt = 0 := hw_ieq c66
      refine lv_aload_n hx hb dX4_letsIn_14 rfl (lv_at hl 1 rfl) ?_
      refine lv_iload_n hx hb dX4_letsIn_15 rfl (lv_at hl 0 rfl) ?_
      refine hw_cR (va_runV (As := [.int x57]) (rest := []) ⟨hx, hb, hml, hown, hts⟩ (k_X4_overIn l D G h0 x57 _ G0) (cwV 1 hts gX4_letsIn_X4_overIn rfl rfl rfl (by decide +kernel) ⟨Nat.le_of_ble_eq_true rfl, Nat.le_of_ble_eq_true rfl⟩) (hw_pV (hw_rc (q := (RX4, TX4, 4)) hK v63 rfl) hH hK hST hS (by decide) (fun _ h => Or.inl h) trivial) rfl rfl hl.1 rfl (lv_room (Nat.le_of_ble_eq_true rfl)) dX4_letsIn_16 ⟨Nat.le_of_ble_eq_true rfl, Nat.le_of_ble_eq_true rfl⟩) (fun v hp => ?_)
      obtain ⟨x69, rfl⟩ := hp
      refine lv_aload_n hx hb dX4_letsIn_19 rfl (lv_at hl 2 rfl) ?_
      refine lv_aload_n hx hb dX4_letsIn_20 rfl (lv_at hl 1 rfl) ?_
      refine hw_get hx hb fg_16_3 hK v63 rfl dX4_letsIn_21 ?_
      refine hw_cR (va_runU (As := [.int py_61]) (rest := [.int x69]) ⟨hx, hb, hml, hown, hts⟩ (k_X8_room l D G p1 py_61 _ 7 cu2 mk3 G1 (by first | assumption | decide | omega)) (va_cwA 1 hts gX4_letsIn_X8_room_u39X8 rfl rfl rfl (hw_ed_room hST.ex) (by decide +kernel) ⟨Nat.le_of_ble_eq_true rfl, Nat.le_of_ble_eq_true rfl⟩) (hw_pV (hw_rc (q := (RX8, TX8, 2)) hK v4 rfl) hH hK hST hS (by decide) (fun _ h => Or.inl h) v4) rfl rfl hl.1 rfl (lv_room (Nat.le_of_ble_eq_true rfl)) dX4_letsIn_24 ⟨Nat.le_of_ble_eq_true rfl, Nat.le_of_ble_eq_true rfl⟩) (fun v hp => ?_)
      obtain ⟨x70, rfl⟩ := hp
      refine lv_icmp_gt (tgt := 34) hx hb dX4_letsIn_27 (by decide) (fun c71 => ?_) (fun c71 => ?_)
      · have b72 : x70.toInt < x69.toInt := hw_ilt c71
        refine lv_iconst (v := 0) hx hb dX4_letsIn_34 (by decide) ?_
        exact hw_iretR (v := 0) hx hb hr hlocks hQ rfl (Or.inr (rfl)) dX4_letsIn_35
      · have b73 : x69.toInt ≤ x70.toInt := hw_inlt c71
        refine lv_iconst (v := 1) hx hb dX4_letsIn_30 (by decide) ?_
        refine lv_goto (tgt := 35) hx hb dX4_letsIn_31 (by decide) ?_
        exact hw_iretR (v := 1) hx hb hr hlocks hQ rfl (Or.inl rfl) dX4_letsIn_35

set_option maxHeartbeats 4000000 in
set_option maxRecDepth 100000 in
theorem k_X4_letsBrass (l : Launch) (D : hw_D) (G : Nat → Nat) (h0 : Nat) (p1 : Int32) (sz : Nat) (G0 : G h0 = 4) : Met l yX4_letsBrass wsX4_letsBrass ({ frames := 2, cells := 0, slots := 0, locals := 41 } : Room) (hw_PC D G [.ref h0, .int p1] sz (fun H => True)) (hw_QR (fun v => (v = .int 1) ∨ (v = .int 0))) 0 0 (fun _ => False) := by
  refine hw_met (cc := cX4_letsBrass) (maxL := 2) (ret := (some .boolean)) (plainFor_of_name (by decide)) rfl (Nat.le_of_ble_eq_true rfl) ?_
  intro p e s m args below meth c QQ ls hsz hx hb hml hr hts hown hlocks hnm hH hK hST hF hQ hl
  subst hsz
  have hS : va_S (hw_AW G [] s.heap.size) s.heap s.heap [] := va_S.rf
  have hl : lv_has ls 2 [(0, .ref h0), (1, .int p1)] := hl
  have u_3 : ∀ w ∈ u_ws RX4 TX4 4, w.before args s = true := fun w hw => hts w ((by decide +kernel : ∀ w ∈ u_ws RX4 TX4 4, w ∈ wsX4_letsBrass) w hw)
  have fg_16_3 : hw_FG s args m 16 3 2 := ⟨RX4, "WardWalkers$Lock", RX4, TX4, 4, u_3, hown, rfl, by decide, (hts (.fieldLink RX4 16 "WardWalkers$Lock" "play" "I") (by decide +kernel)), (fun _ h9 => h9)⟩
  refine lv_aload_n hx hb dX4_letsBrass_0 rfl (lv_at hl 0 rfl) ?_
  refine lv_iload_n hx hb dX4_letsBrass_1 rfl (lv_at hl 1 rfl) ?_
  obtain ⟨r1, pl_2, wa_3, py_4, va_5, v6⟩ := hH.oL G0
  refine hw_cR (va_runV (As := [.int p1]) (rest := []) ⟨hx, hb, hml, hown, hts⟩ (k_X4_lackingIn l D G h0 p1 _ G0) (cwV 1 hts gX4_letsBrass_X4_lackingIn rfl rfl rfl (by decide +kernel) ⟨Nat.le_of_ble_eq_true rfl, Nat.le_of_ble_eq_true rfl⟩) (hw_pV (hw_rc (q := (RX4, TX4, 4)) hK v6 rfl) hH hK hST hS (by decide) (fun _ h => Or.inl h) trivial) rfl rfl hl.1 rfl (lv_room (Nat.le_of_ble_eq_true rfl)) dX4_letsBrass_2 ⟨Nat.le_of_ble_eq_true rfl, Nat.le_of_ble_eq_true rfl⟩) (fun v hp => ?_)
  obtain ⟨x8, rfl⟩ := hp
  refine lv_if_ne (tgt := 24) hx hb dX4_letsBrass_5 (by decide) (fun c9 => ?_) (fun c9 => ?_)
  · have b10 : x8.toInt ≠ 0 := hw_ine c9
    refine lv_iconst (v := 0) hx hb dX4_letsBrass_24 (by decide) ?_
    exact hw_iretR (v := 0) hx hb hr hlocks hQ rfl (Or.inr (rfl)) dX4_letsBrass_25
  · have b11 : x8.toInt = 0 := hw_ieq c9
    refine lv_aload_n hx hb dX4_letsBrass_8 rfl (lv_at hl 0 rfl) ?_
    refine lv_iload_n hx hb dX4_letsBrass_9 rfl (lv_at hl 1 rfl) ?_
    refine hw_cR (va_runV (As := [.int p1]) (rest := []) ⟨hx, hb, hml, hown, hts⟩ (k_X4_overIn l D G h0 p1 _ G0) (cwV 1 hts gX4_letsBrass_X4_overIn rfl rfl rfl (by decide +kernel) ⟨Nat.le_of_ble_eq_true rfl, Nat.le_of_ble_eq_true rfl⟩) (hw_pV (hw_rc (q := (RX4, TX4, 4)) hK v6 rfl) hH hK hST hS (by decide) (fun _ h => Or.inl h) trivial) rfl rfl hl.1 rfl (lv_room (Nat.le_of_ble_eq_true rfl)) dX4_letsBrass_10 ⟨Nat.le_of_ble_eq_true rfl, Nat.le_of_ble_eq_true rfl⟩) (fun v hp => ?_)
    obtain ⟨x12, rfl⟩ := hp
    refine lv_aload_n hx hb dX4_letsBrass_13 rfl (lv_at hl 0 rfl) ?_
    refine hw_get hx hb fg_16_3 hK v6 rfl dX4_letsBrass_14 ?_
    refine lv_icmp_gt (tgt := 24) hx hb dX4_letsBrass_17 (by decide) (fun c13 => ?_) (fun c13 => ?_)
    · have b14 : py_4.toInt < x12.toInt := hw_ilt c13
      refine lv_iconst (v := 0) hx hb dX4_letsBrass_24 (by decide) ?_
      exact hw_iretR (v := 0) hx hb hr hlocks hQ rfl (Or.inr (rfl)) dX4_letsBrass_25
    · have b15 : x12.toInt ≤ py_4.toInt := hw_inlt c13
      refine lv_iconst (v := 1) hx hb dX4_letsBrass_20 (by decide) ?_
      refine lv_goto (tgt := 25) hx hb dX4_letsBrass_21 (by decide) ?_
      exact hw_iretR (v := 1) hx hb hr hlocks hQ rfl (Or.inl rfl) dX4_letsBrass_25
