set_option maxHeartbeats 4000000 in
set_option maxRecDepth 100000 in
theorem k_J0_coder_7d493 (l : Launch) (D : hw_D) (G : Nat → Nat) (sz : Nat) (i : Nat) (hi : i < 8) : Met l yJ0_coder_7d493 wsJ0_coder_7d493 ({ frames := 0, cells := 0, slots := 0, locals := 0 } : Room) (hw_PC D G [.ref (D.2.2 (2 + i))] sz (fun H => True)) (hw_QR (fun v => v = .int 0)) 0 0 (fun _ => False) := by
  refine hw_met (cc := cJ0_coder_7d493) (maxL := 1) (ret := (some .byte)) (by decide +kernel) rfl (Nat.le_of_ble_eq_true rfl) ?_
  intro p e s m args below meth c QQ ls hsz hx hb hml hr hts hown hlocks hnm hH hK hST hF hQ hl
  subst hsz
  have hS : va_S (hw_AW G [] s.heap.size) s.heap s.heap [] := va_S.rf
  have hl : lv_has ls 1 [(0, .ref (D.2.2 (2 + i)))] := hl
  refine va_gets (A := (hw_AW G [] s.heap.size)) hx hb (hST.2.2.2.2.1.narrow (fun q h9 => hw_NGsub (by decide) q h9)) hS hown (hts (.fieldLink RJ0 38 "java/lang/String" "COMPACT_STRINGS" "Z") (by decide +kernel)) (fun _ h9 => h9) dJ0_coder_7d493_0 ?_
  refine lv_if_eq (tgt := 13) hx hb dJ0_coder_7d493_3 (by decide) (fun c1 => ?_) (fun c1 => ?_)
  · exact absurd c1 (by decide)
  · refine lv_aload_n hx hb dJ0_coder_7d493_6 rfl (lv_at hl 0 rfl) ?_
    refine vk_getf (A := (hw_AW G [] s.heap.size)) hx hb (((hST.2.2.2.2.2.2.1.narrow (B := (hw_AW G [] s.heap.size)) (fun q h9 => hw_NGsub (by decide) q h9)).1 i hi).2.1) hS hown (hts (.fieldLink RJ0 15 "java/lang/String" "coder" "B") (by decide +kernel)) (fun _ h9 => h9) dJ0_coder_7d493_7 ?_
    refine lv_goto (tgt := 14) hx hb dJ0_coder_7d493_10 (by decide) ?_
    exact hw_iretR (v := 0) hx hb hr hlocks hQ rfl (rfl) dJ0_coder_7d493_14

set_option maxHeartbeats 4000000 in
set_option maxRecDepth 100000 in
theorem k_J0_isLatin1_aae02 (l : Launch) (D : hw_D) (G : Nat → Nat) (sz : Nat) (i : Nat) (hi : i < 8) : Met l yJ0_isLatin1_aae02 wsJ0_isLatin1_aae02 ({ frames := 0, cells := 0, slots := 0, locals := 0 } : Room) (hw_PC D G [.ref (D.2.2 (2 + i))] sz (fun H => True)) (hw_QR (fun v => v = .int 1)) 0 0 (fun _ => False) := by
  refine hw_met (cc := cJ0_isLatin1_aae02) (maxL := 1) (ret := (some .boolean)) (by decide +kernel) rfl (Nat.le_of_ble_eq_true rfl) ?_
  intro p e s m args below meth c QQ ls hsz hx hb hml hr hts hown hlocks hnm hH hK hST hF hQ hl
  subst hsz
  have hS : va_S (hw_AW G [] s.heap.size) s.heap s.heap [] := va_S.rf
  have hl : lv_has ls 1 [(0, .ref (D.2.2 (2 + i)))] := hl
  refine va_gets (A := (hw_AW G [] s.heap.size)) hx hb (hST.2.2.2.2.1.narrow (fun q h9 => hw_NGsub (by decide) q h9)) hS hown (hts (.fieldLink RJ0 38 "java/lang/String" "COMPACT_STRINGS" "Z") (by decide +kernel)) (fun _ h9 => h9) dJ0_isLatin1_aae02_0 ?_
  refine lv_if_eq (tgt := 17) hx hb dJ0_isLatin1_aae02_3 (by decide) (fun c1 => ?_) (fun c1 => ?_)
  · exact absurd c1 (by decide)
  · refine lv_aload_n hx hb dJ0_isLatin1_aae02_6 rfl (lv_at hl 0 rfl) ?_
    refine vk_getf (A := (hw_AW G [] s.heap.size)) hx hb (((hST.2.2.2.2.2.2.1.narrow (B := (hw_AW G [] s.heap.size)) (fun q h9 => hw_NGsub (by decide) q h9)).1 i hi).2.1) hS hown (hts (.fieldLink RJ0 15 "java/lang/String" "coder" "B") (by decide +kernel)) (fun _ h9 => h9) dJ0_isLatin1_aae02_7 ?_
    refine lv_if_ne (tgt := 17) hx hb dJ0_isLatin1_aae02_10 (by decide) (fun c2 => ?_) (fun c2 => ?_)
    · exact absurd c2 (by decide)
    · refine lv_iconst (v := 1) hx hb dJ0_isLatin1_aae02_13 (by decide) ?_
      refine lv_goto (tgt := 18) hx hb dJ0_isLatin1_aae02_14 (by decide) ?_
      exact hw_iretR (v := 1) hx hb hr hlocks hQ rfl (rfl) dJ0_isLatin1_aae02_18

set_option maxHeartbeats 4000000 in
set_option maxRecDepth 100000 in
theorem k_J0_length_8abf5 (l : Launch) (D : hw_D) (G : Nat → Nat) (sz : Nat) (i : Nat) (hi : i < 8) : Met l yJ0_length_8abf5 wsJ0_length_8abf5 ({ frames := 1, cells := 0, slots := 0, locals := 20 } : Room) (hw_PC D G [.ref (D.2.2 (2 + i))] sz (fun H => True)) (hw_QR (fun v => ∃ (r : Int32), v = .int r ∧ r.toInt = ((hw_sl.getD i 0 : Nat) : Int))) 0 0 (fun _ => False) := by
  refine hw_met (cc := cJ0_length_8abf5) (maxL := 1) (ret := (some .int)) (by decide +kernel) rfl (Nat.le_of_ble_eq_true rfl) ?_
  intro p e s m args below meth c QQ ls hsz hx hb hml hr hts hown hlocks hnm hH hK hST hF hQ hl
  subst hsz
  have hS : va_S (hw_AW G [] s.heap.size) s.heap s.heap [] := va_S.rf
  have hl : lv_has ls 1 [(0, .ref (D.2.2 (2 + i)))] := hl
  refine lv_aload_n hx hb dJ0_length_8abf5_0 rfl (lv_at hl 0 rfl) ?_
  refine vk_getf (A := (hw_AW G [] s.heap.size)) hx hb (((hST.2.2.2.2.2.2.1.narrow (B := (hw_AW G [] s.heap.size)) (fun q h9 => hw_NGsub (by decide) q h9)).1 i hi).2.2.1) hS hown (hts (.fieldLink RJ0 9 "java/lang/String" "value" "[B") (by decide +kernel)) (fun _ h9 => h9) dJ0_length_8abf5_1 ?_
  refine va_tlen (A := (hw_AW G [] s.heap.size)) hx hb (((hST.2.2.2.2.2.2.1.narrow (B := (hw_AW G [] s.heap.size)) (fun q h9 => hw_NGsub (by decide) q h9)).1 i hi).2.2.2) hS rfl dJ0_length_8abf5_4 ?_
  refine lv_topi (fun x1 e2 => ?_)
  have t3 : x1.toInt = ((hw_sl.getD i 0 : Nat) : Int) := by rw [e2]; exact hw_slI _ hi
  have t4 := hw_sl_rng _ hi
  refine lv_aload_n hx hb dJ0_length_8abf5_5 rfl (lv_at hl 0 rfl) ?_
  refine hw_cR (va_runV (As := []) (rest := [.int x1]) ⟨hx, hb, hml, hown, hts⟩ (k_J0_coder_7d493 l D G _ i hi) (cwV 0 hts gJ0_length_8abf5_J0_coder_7d493 rfl rfl rfl (by decide +kernel) ⟨Nat.le_of_ble_eq_true rfl, Nat.le_of_ble_eq_true rfl⟩) (hw_pV (vk_recv (A := (hw_AW G [] s.heap.size)) (i := i) (hST.2.2.2.2.2.2.1.narrow (fun q h9 => hw_NGsub (by decide) q h9)) hi hS) hH hK hST hS (by decide) (fun _ h => Or.inl h) trivial) rfl rfl hl.1 rfl (lv_room (Nat.le_of_ble_eq_true rfl)) dJ0_length_8abf5_6 ⟨Nat.le_of_ble_eq_true rfl, Nat.le_of_ble_eq_true rfl⟩) (fun v hp => ?_)
  obtain rfl := hp
  refine lv_ishr hx hb dJ0_length_8abf5_9 ?_
  refine lv_topi (fun x5 e6 => ?_)
  have t7 : x5.toInt = x1.toInt := by rw [e6, hw_shr0]
  exact hw_iretR (v := x5) hx hb hr hlocks hQ rfl (⟨x5, rfl, (by first | rfl | trivial | assumption | omega | (intros; first | rfl | assumption | omega | (exfalso; omega)))⟩) dJ0_length_8abf5_10

set_option maxHeartbeats 4000000 in
set_option maxRecDepth 100000 in
theorem k_J3n (l : Launch) (D : hw_D) (G : Nat → Nat) (p1 : Int32) (p2 : Int32) (sz : Nat) (hk : 0 ≤ p1.toInt ∧ p1.toInt < p2.toInt) : Met l yJ3_checkIndex_8e157 wsJ3_checkIndex_8e157 ({ frames := 0, cells := 0, slots := 0, locals := 0 } : Room) (hw_PC D G [.int p1, .int p2, .null] sz (fun H => True)) (hw_QR (fun v => ∃ (r : Int32), v = .int r)) 0 0 (fun _ => False) := by
  refine hw_met (cc := cJ3_checkIndex_8e157) (maxL := 3) (ret := (some .int)) (by decide +kernel) rfl (Nat.le_of_ble_eq_true rfl) ?_
  intro p e s m args below meth c QQ ls hsz hx hb hml hr hts hown hlocks hnm hH hK hST hF hQ hl
  subst hsz
  have hS : va_S (hw_AW G [] s.heap.size) s.heap s.heap [] := va_S.rf
  have hl : lv_has ls 3 [(0, .int p1), (1, .int p2), (2, .null)] := hl
  refine lv_iload_n hx hb dJ3_checkIndex_8e157_0 rfl (lv_at hl 0 rfl) ?_
  refine lv_if_lt (tgt := 9) hx hb dJ3_checkIndex_8e157_1 (by decide) (fun c1 => ?_) (fun c1 => ?_)
  · have b2 : p1.toInt < 0 := hw_ilt c1
    exfalso; omega
  · have b3 : 0 ≤ p1.toInt := hw_inlt c1
    refine lv_iload_n hx hb dJ3_checkIndex_8e157_4 rfl (lv_at hl 0 rfl) ?_
    refine lv_iload_n hx hb dJ3_checkIndex_8e157_5 rfl (lv_at hl 1 rfl) ?_
    refine lv_icmp_lt (tgt := 16) hx hb dJ3_checkIndex_8e157_6 (by decide) (fun c4 => ?_) (fun c4 => ?_)
    · have b5 : p1.toInt < p2.toInt := hw_ilt c4
      refine lv_iload_n hx hb dJ3_checkIndex_8e157_16 rfl (lv_at hl 0 rfl) ?_
      exact hw_iretR (v := p1) hx hb hr hlocks hQ rfl (⟨p1, rfl⟩) dJ3_checkIndex_8e157_17
    · have b6 : p2.toInt ≤ p1.toInt := hw_inlt c4
      exfalso; omega

set_option maxHeartbeats 4000000 in
set_option maxRecDepth 100000 in
theorem k_J3r (l : Launch) (D : hw_D) (G : Nat → Nat) (p1 : Int32) (p2 : Int32) (p3 : Nat) (sz : Nat) (hk : 0 ≤ p1.toInt ∧ p1.toInt < p2.toInt) : Met l yJ3_checkIndex_8e157 wsJ3_checkIndex_8e157 ({ frames := 0, cells := 0, slots := 0, locals := 0 } : Room) (hw_PC D G [.int p1, .int p2, .ref p3] sz (fun H => True)) (hw_QR (fun v => ∃ (r : Int32), v = .int r)) 0 0 (fun _ => False) := by
  refine hw_met (cc := cJ3_checkIndex_8e157) (maxL := 3) (ret := (some .int)) (by decide +kernel) rfl (Nat.le_of_ble_eq_true rfl) ?_
  intro p e s m args below meth c QQ ls hsz hx hb hml hr hts hown hlocks hnm hH hK hST hF hQ hl
  subst hsz
  have hS : va_S (hw_AW G [] s.heap.size) s.heap s.heap [] := va_S.rf
  have hl : lv_has ls 3 [(0, .int p1), (1, .int p2), (2, .ref p3)] := hl
  refine lv_iload_n hx hb dJ3_checkIndex_8e157_0 rfl (lv_at hl 0 rfl) ?_
  refine lv_if_lt (tgt := 9) hx hb dJ3_checkIndex_8e157_1 (by decide) (fun c1 => ?_) (fun c1 => ?_)
  · have b2 : p1.toInt < 0 := hw_ilt c1
    exfalso; omega
  · have b3 : 0 ≤ p1.toInt := hw_inlt c1
    refine lv_iload_n hx hb dJ3_checkIndex_8e157_4 rfl (lv_at hl 0 rfl) ?_
    refine lv_iload_n hx hb dJ3_checkIndex_8e157_5 rfl (lv_at hl 1 rfl) ?_
    refine lv_icmp_lt (tgt := 16) hx hb dJ3_checkIndex_8e157_6 (by decide) (fun c4 => ?_) (fun c4 => ?_)
    · have b5 : p1.toInt < p2.toInt := hw_ilt c4
      refine lv_iload_n hx hb dJ3_checkIndex_8e157_16 rfl (lv_at hl 0 rfl) ?_
      exact hw_iretR (v := p1) hx hb hr hlocks hQ rfl (⟨p1, rfl⟩) dJ3_checkIndex_8e157_17
    · have b6 : p2.toInt ≤ p1.toInt := hw_inlt c4
      exfalso; omega

set_option maxHeartbeats 4000000 in
set_option maxRecDepth 100000 in
theorem k_J0_checkIndex_df160 (l : Launch) (D : hw_D) (G : Nat → Nat) (p1 : Int32) (p2 : Int32) (sz : Nat) (hk : 0 ≤ p1.toInt ∧ p1.toInt < p2.toInt) : Met l yJ0_checkIndex_df160 wsJ0_checkIndex_df160 ({ frames := 1, cells := 0, slots := 0, locals := 22 } : Room) (hw_PC D G [.int p1, .int p2] sz (fun H => True)) (hw_QM (fun v H => v = none ∧ hw_HT D G H) (hw_AW G [] sz)) 0 0 (hw_AW G [] sz) := by
  refine hw_met (cc := cJ0_checkIndex_df160) (maxL := 2) (ret := none) (by decide +kernel) rfl (Nat.le_of_ble_eq_true rfl) ?_
  intro p e s m args below meth c QQ ls hsz hx hb hml hr hts hown hlocks hnm hH hK hST hF hQ hl
  subst hsz
  have hS : va_S (hw_AW G [] s.heap.size) s.heap s.heap [] := va_S.rf
  have hl : lv_has ls 2 [(0, .int p1), (1, .int p2)] := hl
  refine lv_iload_n hx hb dJ0_checkIndex_df160_0 rfl (lv_at hl 0 rfl) ?_
  refine lv_iload_n hx hb dJ0_checkIndex_df160_1 rfl (lv_at hl 1 rfl) ?_
  rcases (hST.2.2.2.2.2.1.narrow (B := (hw_AW G [] s.heap.size)) (fun q h9 => hw_NGsub (by decide) q h9)) with z9 | ⟨t9, z9⟩
  · refine va_gets (A := (hw_AW G [] s.heap.size)) hx hb z9 hS hown (hts (.fieldLink RJ0 1053 "jdk/internal/util/Preconditions" "SIOOBE_FORMATTER" "Ljava/util/function/BiFunction;") (by decide +kernel)) (fun _ h9 => h9) dJ0_checkIndex_df160_2 ?_
    refine hw_cR (va_runS (As := [.int p1, .int p2, .null]) (rest := []) ⟨hx, hb, hml, hown, hts⟩ (k_J3n l D G p1 p2 _ (by first | assumption | decide | omega)) (va_cwS 3 hts gJ0_checkIndex_df160_J3_checkIndex_8e157 rfl rfl rfl (by decide +kernel) ⟨Nat.le_of_ble_eq_true rfl, Nat.le_of_ble_eq_true rfl⟩) (hw_pS hH hK hST hS (by decide) (fun _ h => Or.inl h) trivial) rfl rfl hl.1 rfl (lv_room (Nat.le_of_ble_eq_true rfl)) dJ0_checkIndex_df160_5 ⟨Nat.le_of_ble_eq_true rfl, Nat.le_of_ble_eq_true rfl⟩) (fun v hp => ?_)
    obtain ⟨x1, rfl⟩ := hp
    refine lv_pop hx hb dJ0_checkIndex_df160_8 rfl ?_
    exact hw_vretM hx hb hr hlocks hQ hS (⟨rfl, hH⟩) dJ0_checkIndex_df160_9
  · refine va_gets (A := (hw_AW G [] s.heap.size)) hx hb z9 hS hown (hts (.fieldLink RJ0 1053 "jdk/internal/util/Preconditions" "SIOOBE_FORMATTER" "Ljava/util/function/BiFunction;") (by decide +kernel)) (fun _ h9 => h9) dJ0_checkIndex_df160_2 ?_
    refine hw_cR (va_runS (As := [.int p1, .int p2, .ref t9]) (rest := []) ⟨hx, hb, hml, hown, hts⟩ (k_J3r l D G p1 p2 t9 _ (by first | assumption | decide | omega)) (va_cwS 3 hts gJ0_checkIndex_df160_J3_checkIndex_8e157 rfl rfl rfl (by decide +kernel) ⟨Nat.le_of_ble_eq_true rfl, Nat.le_of_ble_eq_true rfl⟩) (hw_pS hH hK hST hS (by decide) (fun _ h => Or.inl h) trivial) rfl rfl hl.1 rfl (lv_room (Nat.le_of_ble_eq_true rfl)) dJ0_checkIndex_df160_5 ⟨Nat.le_of_ble_eq_true rfl, Nat.le_of_ble_eq_true rfl⟩) (fun v hp => ?_)
    obtain ⟨x2, rfl⟩ := hp
    refine lv_pop hx hb dJ0_checkIndex_df160_8 rfl ?_
    exact hw_vretM hx hb hr hlocks hQ hS (⟨rfl, hH⟩) dJ0_checkIndex_df160_9

set_option maxHeartbeats 4000000 in
set_option maxRecDepth 100000 in
theorem k_J1_charAt_3b067 (l : Launch) (D : hw_D) (G : Nat → Nat) (p2 : Int32) (sz : Nat) (i : Nat) (hi : i < 8) (hk : 0 ≤ p2.toInt ∧ p2.toInt < ((hw_sl.getD i 0 : Nat) : Int)) : Met l yJ1_charAt_3b067 wsJ1_charAt_3b067 ({ frames := 2, cells := 0, slots := 0, locals := 43 } : Room) (hw_PC D G [.ref (D.2.2 (10 + i)), .int p2] sz (fun H => True)) (hw_QM (fun v H => ∃ (r : Int32), v = some (.int r) ∧ hw_HT D G H ∧ narrow .char (.int r) = .int r) (hw_AW G [] sz)) 0 0 (hw_AW G [] sz) := by
  refine hw_met (cc := cJ1_charAt_3b067) (maxL := 2) (ret := (some .char)) (by decide +kernel) rfl (Nat.le_of_ble_eq_true rfl) ?_
  intro p e s m args below meth c QQ ls hsz hx hb hml hr hts hown hlocks hnm hH hK hST hF hQ hl
  subst hsz
  have hS : va_S (hw_AW G [] s.heap.size) s.heap s.heap [] := va_S.rf
  have hl : lv_has ls 2 [(0, .ref (D.2.2 (10 + i))), (1, .int p2)] := hl
  refine lv_iload_n hx hb dJ1_charAt_3b067_0 rfl (lv_at hl 1 rfl) ?_
  refine lv_aload_n hx hb dJ1_charAt_3b067_1 rfl (lv_at hl 0 rfl) ?_
  refine va_tlen (A := (hw_AW G [] s.heap.size)) hx hb (((hST.2.2.2.2.2.2.1.narrow (B := (hw_AW G [] s.heap.size)) (fun q h9 => hw_NGsub (by decide) q h9)).1 i hi).2.2.2) hS rfl dJ1_charAt_3b067_2 ?_
  refine lv_topi (fun x1 e2 => ?_)
  have t3 : x1.toInt = ((hw_sl.getD i 0 : Nat) : Int) := by rw [e2]; exact hw_slI _ hi
  have t4 := hw_sl_rng _ hi
  refine hw_cM0 (va_runS (As := [.int p2, .int x1]) (rest := []) ⟨hx, hb, hml, hown, hts⟩ (k_J0_checkIndex_df160 l D G p2 x1 _ (by first | assumption | decide | omega)) (va_cwS 2 hts gJ1_charAt_3b067_J0_checkIndex_df160 rfl rfl rfl (by decide +kernel) ⟨Nat.le_of_ble_eq_true rfl, Nat.le_of_ble_eq_true rfl⟩) (hw_pS hH hK hST hS (by decide) (fun _ h => Or.inl h) trivial) rfl rfl hl.1 rfl (lv_room (Nat.le_of_ble_eq_true rfl)) dJ1_charAt_3b067_3 ⟨Nat.le_of_ble_eq_true rfl, Nat.le_of_ble_eq_true rfl⟩) hS (hw_AWsub (by decide) (fun _ _ => rfl) hS.1) (fun v H locs hp hz hk hS => ?_)
  obtain ⟨rfl, hH⟩ := hp
  refine lv_aload_n hx hb dJ1_charAt_3b067_6 rfl (lv_at hl 0 rfl) ?_
  refine lv_iload_n hx hb dJ1_charAt_3b067_7 rfl (lv_at hl 1 rfl) ?_
  refine va_tb (A := (hw_AW G [] s.heap.size)) hx hb (((hST.2.2.2.2.2.2.1.narrow (B := (hw_AW G [] s.heap.size)) (fun q h9 => hw_NGsub (by decide) q h9)).1 i hi).2.2.2) hS (hw_in (by omega) (by omega)) rfl dJ1_charAt_3b067_8 ?_
  refine lv_topi (fun x5 e6 => ?_)
  refine lv_sipush (v := 255) hx hb dJ1_charAt_3b067_9 (by decide) ?_
  refine lv_iand hx hb dJ1_charAt_3b067_12 ?_
  refine lv_topi (fun x7 e8 => ?_)
  have t9 : 0 ≤ x7.toInt ∧ x7.toInt ≤ 255 := by rw [e8]; exact hw_and (by first | decide | omega)
  refine lv_i2c hx hb dJ1_charAt_3b067_13 rfl ?_
  refine lv_topi (fun x10 e11 => ?_)
  exact hw_iretM (v := x10) hx hb hr hlocks hQ hS (by rw [e11]; exact pk_nc _) (⟨x10, rfl, hH, (by rw [e11]; exact pk_nc _)⟩) dJ1_charAt_3b067_14

set_option maxHeartbeats 4000000 in
set_option maxRecDepth 100000 in
theorem k_J0_charAt_5068e (l : Launch) (D : hw_D) (G : Nat → Nat) (p1 : Int32) (sz : Nat) (i : Nat) (hi : i < 8) (hk : 0 ≤ p1.toInt ∧ p1.toInt < ((hw_sl.getD i 0 : Nat) : Int)) : Met l yJ0_charAt_5068e wsJ0_charAt_5068e ({ frames := 3, cells := 0, slots := 0, locals := 64 } : Room) (hw_PC D G [.ref (D.2.2 (2 + i)), .int p1] sz (fun H => True)) (hw_QM (fun v H => ∃ (r : Int32), v = some (.int r) ∧ hw_HT D G H ∧ narrow .char (.int r) = .int r) (hw_AW G [] sz)) 0 0 (hw_AW G [] sz) := by
  refine hw_met (cc := cJ0_charAt_5068e) (maxL := 2) (ret := (some .char)) (by decide +kernel) rfl (Nat.le_of_ble_eq_true rfl) ?_
  intro p e s m args below meth c QQ ls hsz hx hb hml hr hts hown hlocks hnm hH hK hST hF hQ hl
  subst hsz
  have hS : va_S (hw_AW G [] s.heap.size) s.heap s.heap [] := va_S.rf
  have hl : lv_has ls 2 [(0, .ref (D.2.2 (2 + i))), (1, .int p1)] := hl
  refine lv_aload_n hx hb dJ0_charAt_5068e_0 rfl (lv_at hl 0 rfl) ?_
  refine hw_cR (va_runV (As := []) (rest := []) ⟨hx, hb, hml, hown, hts⟩ (k_J0_isLatin1_aae02 l D G _ i hi) (cwV 0 hts gJ0_charAt_5068e_J0_isLatin1_aae02 rfl rfl rfl (by decide +kernel) ⟨Nat.le_of_ble_eq_true rfl, Nat.le_of_ble_eq_true rfl⟩) (hw_pV (vk_recv (A := (hw_AW G [] s.heap.size)) (i := i) (hST.2.2.2.2.2.2.1.narrow (fun q h9 => hw_NGsub (by decide) q h9)) hi hS) hH hK hST hS (by decide) (fun _ h => Or.inl h) trivial) rfl rfl hl.1 rfl (lv_room (Nat.le_of_ble_eq_true rfl)) dJ0_charAt_5068e_1 ⟨Nat.le_of_ble_eq_true rfl, Nat.le_of_ble_eq_true rfl⟩) (fun v hp => ?_)
  obtain rfl := hp
  refine lv_if_eq (tgt := 16) hx hb dJ0_charAt_5068e_4 (by decide) (fun c1 => ?_) (fun c1 => ?_)
  · exact absurd c1 (by decide)
  · refine lv_aload_n hx hb dJ0_charAt_5068e_7 rfl (lv_at hl 0 rfl) ?_
    refine vk_getf (A := (hw_AW G [] s.heap.size)) hx hb (((hST.2.2.2.2.2.2.1.narrow (B := (hw_AW G [] s.heap.size)) (fun q h9 => hw_NGsub (by decide) q h9)).1 i hi).2.2.1) hS hown (hts (.fieldLink RJ0 9 "java/lang/String" "value" "[B") (by decide +kernel)) (fun _ h9 => h9) dJ0_charAt_5068e_8 ?_
    refine lv_iload_n hx hb dJ0_charAt_5068e_11 rfl (lv_at hl 1 rfl) ?_
    refine hw_cM0 (va_runS (As := [.ref (D.2.2 (10 + i)), .int p1]) (rest := []) ⟨hx, hb, hml, hown, hts⟩ (k_J1_charAt_3b067 l D G p1 _ i hi (by first | assumption | decide | omega)) (va_cwS 2 hts gJ0_charAt_5068e_J1_charAt_3b067 rfl rfl rfl (by decide +kernel) ⟨Nat.le_of_ble_eq_true rfl, Nat.le_of_ble_eq_true rfl⟩) (hw_pS hH hK hST hS (by decide) (fun _ h => Or.inl h) trivial) rfl rfl hl.1 rfl (lv_room (Nat.le_of_ble_eq_true rfl)) dJ0_charAt_5068e_12 ⟨Nat.le_of_ble_eq_true rfl, Nat.le_of_ble_eq_true rfl⟩) hS (hw_AWsub (by decide) (fun _ _ => rfl) hS.1) (fun v H locs hp hz hk hS => ?_)
    obtain ⟨x2, rfl, hH, q3⟩ := hp
    exact hw_iretM (v := x2) hx hb hr hlocks hQ hS (by assumption) (⟨x2, rfl, hH, (by first | rfl | trivial | assumption | omega | (intros; first | rfl | assumption | omega | (exfalso; omega)))⟩) dJ0_charAt_5068e_15

set_option maxHeartbeats 4000000 in
set_option maxRecDepth 100000 in
theorem k_X10_letterAt (l : Launch) (D : hw_D) (G : Nat → Nat) (h0 : Nat) (p1 : Int32) (sz : Nat) (G0 : G h0 = 8) : Met l yX10_letterAt wsX10_letterAt ({ frames := 0, cells := 0, slots := 0, locals := 0 } : Room) (hw_PC D G [.ref h0, .int p1] sz (fun H => True)) (hw_QR (fun v => ∃ (r : Int32), v = .int r)) 0 0 (fun _ => False) := by
  refine hw_met (cc := cX10_letterAt) (maxL := 2) (ret := (some .int)) (plainFor_of_name (by decide)) rfl (Nat.le_of_ble_eq_true rfl) ?_
  intro p e s m args below meth c QQ ls hsz hx hb hml hr hts hown hlocks hnm hH hK hST hF hQ hl
  subst hsz
  have hS : va_S (hw_AW G [] s.heap.size) s.heap s.heap [] := va_S.rf
  have hl : lv_has ls 2 [(0, .ref h0), (1, .int p1)] := hl
  have u_9 : ∀ w ∈ u_ws RX10 TX10 10, w.before args s = true := fun w hw => hts w ((by decide +kernel : ∀ w ∈ u_ws RX10 TX10 10, w ∈ wsX10_letterAt) w hw)
  have fg_21_9 : hw_FG s args m 21 9 1 := ⟨RX10, "WardWalkers$Text", RX10, TX10, 10, u_9, hown, rfl, by decide, (hts (.fieldLink RX10 21 "WardWalkers$Text" "length" "I") (by decide +kernel)), (fun _ h9 => h9)⟩
  have fg_11_9 : hw_FG s args m 11 9 0 := ⟨RX10, "WardWalkers$Text", RX10, TX10, 10, u_9, hown, rfl, by decide, (hts (.fieldLink RX10 11 "WardWalkers$Text" "letters" "[I") (by decide +kernel)), (fun _ h9 => h9)⟩
  refine lv_iload_n hx hb dX10_letterAt_0 rfl (lv_at hl 1 rfl) ?_
  refine lv_if_lt (tgt := 28) hx hb dX10_letterAt_1 (by decide) (fun c1 => ?_) (fun c1 => ?_)
  · have b2 : p1.toInt < 0 := hw_ilt c1
    refine lv_iconst (v := (-1)) hx hb dX10_letterAt_28 (by decide) ?_
    exact hw_iretR (v := (-1)) hx hb hr hlocks hQ rfl (⟨(-1), rfl⟩) dX10_letterAt_29
  · have b3 : 0 ≤ p1.toInt := hw_inlt c1
    refine lv_iload_n hx hb dX10_letterAt_4 rfl (lv_at hl 1 rfl) ?_
    refine lv_aload_n hx hb dX10_letterAt_5 rfl (lv_at hl 0 rfl) ?_
    obtain ⟨r4, ln_5, cl_6, st_7, en_8, kf_9, lf_10, wf_11, v12, R13, g14, g15, g16, g17⟩ := hH.oT G0
    refine hw_get hx hb fg_21_9 hK v12 rfl dX10_letterAt_6 ?_
    refine lv_icmp_ge (tgt := 28) hx hb dX10_letterAt_9 (by decide) (fun c18 => ?_) (fun c18 => ?_)
    · have b19 : ln_5.toInt ≤ p1.toInt := hw_ile c18
      refine lv_iconst (v := (-1)) hx hb dX10_letterAt_28 (by decide) ?_
      exact hw_iretR (v := (-1)) hx hb hr hlocks hQ rfl (⟨(-1), rfl⟩) dX10_letterAt_29
    · have b20 : p1.toInt < ln_5.toInt := hw_inle c18
      refine lv_iload_n hx hb dX10_letterAt_12 rfl (lv_at hl 1 rfl) ?_
      refine lv_sipush (v := 200) hx hb dX10_letterAt_13 (by decide) ?_
      refine lv_icmp_ge (tgt := 28) hx hb dX10_letterAt_16 (by decide) (fun c21 => ?_) (fun c21 => ?_)
      · have b22 : 200 ≤ p1.toInt := hw_ile c21
        exfalso; omega
      · have b23 : p1.toInt < 200 := hw_inle c21
        refine lv_aload_n hx hb dX10_letterAt_19 rfl (lv_at hl 0 rfl) ?_
        refine hw_get hx hb fg_11_9 hK v12 rfl dX10_letterAt_20 ?_
        refine lv_iload_n hx hb dX10_letterAt_23 rfl (lv_at hl 1 rfl) ?_
        obtain ⟨f24, v25⟩ := hH.a24 (hw_RT_0 R13)
        refine hw_iald hx hb hK v25 (hw_in (by omega) (by omega)) dX10_letterAt_24 ?_
        refine lv_topi (fun x27 e28 => ?_)
        refine lv_goto (tgt := 29) hx hb dX10_letterAt_25 (by decide) ?_
        exact hw_iretR (v := x27) hx hb hr hlocks hQ rfl (⟨x27, rfl⟩) dX10_letterAt_29

set_option maxHeartbeats 4000000 in
set_option maxRecDepth 100000 in
theorem k_X10_sortOf (l : Launch) (D : hw_D) (G : Nat → Nat) (p1 : Int32) (sz : Nat) : Met l yX10_sortOf wsX10_sortOf ({ frames := 0, cells := 0, slots := 0, locals := 0 } : Room) (hw_PC D G [.int p1] sz (fun H => True)) (hw_QR (fun v => ∃ (r : Int32), v = .int r)) 0 0 (fun _ => False) := by
  refine hw_met (cc := cX10_sortOf) (maxL := 1) (ret := (some .int)) (plainFor_of_name (by decide)) rfl (Nat.le_of_ble_eq_true rfl) ?_
  intro p e s m args below meth c QQ ls hsz hx hb hml hr hts hown hlocks hnm hH hK hST hF hQ hl
  subst hsz
  have hS : va_S (hw_AW G [] s.heap.size) s.heap s.heap [] := va_S.rf
  have hl : lv_has ls 1 [(0, .int p1)] := hl
  refine lv_iload_n hx hb dX10_sortOf_0 rfl (lv_at hl 0 rfl) ?_
  refine lv_bipush (v := 97) hx hb dX10_sortOf_1 (by decide) ?_
  refine lv_icmp_lt (tgt := 14) hx hb dX10_sortOf_3 (by decide) (fun c1 => ?_) (fun c1 => ?_)
  · have b2 : p1.toInt < 97 := hw_ilt c1
    refine lv_iload_n hx hb dX10_sortOf_14 rfl (lv_at hl 0 rfl) ?_
    refine lv_bipush (v := 48) hx hb dX10_sortOf_15 (by decide) ?_
    refine lv_icmp_lt (tgt := 30) hx hb dX10_sortOf_17 (by decide) (fun c3 => ?_) (fun c3 => ?_)
    · have b4 : p1.toInt < 48 := hw_ilt c3
      refine lv_iconst (v := 2) hx hb dX10_sortOf_30 (by decide) ?_
      exact hw_iretR (v := 2) hx hb hr hlocks hQ rfl (⟨2, rfl⟩) dX10_sortOf_31
    · have b5 : 48 ≤ p1.toInt := hw_inlt c3
      refine lv_iload_n hx hb dX10_sortOf_20 rfl (lv_at hl 0 rfl) ?_
      refine lv_bipush (v := 57) hx hb dX10_sortOf_21 (by decide) ?_
      refine lv_icmp_gt (tgt := 30) hx hb dX10_sortOf_23 (by decide) (fun c6 => ?_) (fun c6 => ?_)
      · have b7 : 57 < p1.toInt := hw_ilt c6
        refine lv_iconst (v := 2) hx hb dX10_sortOf_30 (by decide) ?_
        exact hw_iretR (v := 2) hx hb hr hlocks hQ rfl (⟨2, rfl⟩) dX10_sortOf_31
      · have b8 : p1.toInt ≤ 57 := hw_inlt c6
        refine lv_iconst (v := 1) hx hb dX10_sortOf_26 (by decide) ?_
        refine lv_goto (tgt := 31) hx hb dX10_sortOf_27 (by decide) ?_
        exact hw_iretR (v := 1) hx hb hr hlocks hQ rfl (⟨1, rfl⟩) dX10_sortOf_31
  · have b9 : 97 ≤ p1.toInt := hw_inlt c1
    refine lv_iload_n hx hb dX10_sortOf_6 rfl (lv_at hl 0 rfl) ?_
    refine lv_bipush (v := 122) hx hb dX10_sortOf_7 (by decide) ?_
    refine lv_icmp_gt (tgt := 14) hx hb dX10_sortOf_9 (by decide) (fun c10 => ?_) (fun c10 => ?_)
    · have b11 : 122 < p1.toInt := hw_ilt c10
      refine lv_iload_n hx hb dX10_sortOf_14 rfl (lv_at hl 0 rfl) ?_
      refine lv_bipush (v := 48) hx hb dX10_sortOf_15 (by decide) ?_
      refine lv_icmp_lt (tgt := 30) hx hb dX10_sortOf_17 (by decide) (fun c12 => ?_) (fun c12 => ?_)
      · have b13 : p1.toInt < 48 := hw_ilt c12
        exfalso; omega
      · have b14 : 48 ≤ p1.toInt := hw_inlt c12
        refine lv_iload_n hx hb dX10_sortOf_20 rfl (lv_at hl 0 rfl) ?_
        refine lv_bipush (v := 57) hx hb dX10_sortOf_21 (by decide) ?_
        refine lv_icmp_gt (tgt := 30) hx hb dX10_sortOf_23 (by decide) (fun c15 => ?_) (fun c15 => ?_)
        · have b16 : 57 < p1.toInt := hw_ilt c15
          refine lv_iconst (v := 2) hx hb dX10_sortOf_30 (by decide) ?_
          exact hw_iretR (v := 2) hx hb hr hlocks hQ rfl (⟨2, rfl⟩) dX10_sortOf_31
        · have b17 : p1.toInt ≤ 57 := hw_inlt c15
          exfalso; omega
    · have b18 : p1.toInt ≤ 122 := hw_inlt c10
      refine lv_iconst (v := 0) hx hb dX10_sortOf_12 (by decide) ?_
      exact hw_iretR (v := 0) hx hb hr hlocks hQ rfl (⟨0, rfl⟩) dX10_sortOf_13

set_option maxHeartbeats 4000000 in
set_option maxRecDepth 100000 in
theorem k_X10_hasPlace (l : Launch) (D : hw_D) (G : Nat → Nat) (h0 : Nat) (sz : Nat) (ra : Nat → Nat) (ln_a cl_a st_a en_a kf_a lf_a wf_a : Int32) (G0 : G h0 = 8) (Ra : hw_RT G ra) (gln_a : 0 ≤ ln_a.toInt ∧ ln_a.toInt ≤ 200) (gcl_a : 0 ≤ cl_a.toInt ∧ cl_a.toInt ≤ 20) (gst_a : 0 ≤ st_a.toInt ∧ st_a.toInt ≤ 200) (gen_a : 0 ≤ en_a.toInt ∧ en_a.toInt ≤ 200) : Met l yX10_hasPlace wsX10_hasPlace ({ frames := 0, cells := 0, slots := 0, locals := 0 } : Room) (hw_PC D G [.ref h0] sz (fun H => va_at D.1 vwCl (h0, .inr (9, hw_LT ra ln_a cl_a st_a en_a kf_a lf_a wf_a)) H)) (hw_QR (fun v => (v = .int 1 ∧ ln_a.toInt < 200) ∨ (v = .int 0 ∧ 200 ≤ ln_a.toInt))) 0 0 (fun _ => False) := by
  refine hw_met (cc := cX10_hasPlace) (maxL := 1) (ret := (some .boolean)) (plainFor_of_name (by decide)) rfl (Nat.le_of_ble_eq_true rfl) ?_
  intro p e s m args below meth c QQ ls hsz hx hb hml hr hts hown hlocks hnm hH hK hST hF hQ hl
  subst hsz
  have hS : va_S (hw_AW G [] s.heap.size) s.heap s.heap [] := va_S.rf
  have va := hF
  have hl : lv_has ls 1 [(0, .ref h0)] := hl
  have u_9 : ∀ w ∈ u_ws RX10 TX10 10, w.before args s = true := fun w hw => hts w ((by decide +kernel : ∀ w ∈ u_ws RX10 TX10 10, w ∈ wsX10_hasPlace) w hw)
  have fg_21_9 : hw_FG s args m 21 9 1 := ⟨RX10, "WardWalkers$Text", RX10, TX10, 10, u_9, hown, rfl, by decide, (hts (.fieldLink RX10 21 "WardWalkers$Text" "length" "I") (by decide +kernel)), (fun _ h9 => h9)⟩
  refine lv_aload_n hx hb dX10_hasPlace_0 rfl (lv_at hl 0 rfl) ?_
  refine hw_get hx hb fg_21_9 hK va rfl dX10_hasPlace_1 ?_
  refine lv_sipush (v := 200) hx hb dX10_hasPlace_4 (by decide) ?_
  refine lv_icmp_ge (tgt := 14) hx hb dX10_hasPlace_7 (by decide) (fun c1 => ?_) (fun c1 => ?_)
  · have b2 : 200 ≤ ln_a.toInt := hw_ile c1
    refine lv_iconst (v := 0) hx hb dX10_hasPlace_14 (by decide) ?_
    exact hw_iretR (v := 0) hx hb hr hlocks hQ rfl (Or.inr (⟨rfl, (by first | rfl | trivial | assumption | omega | (intros; first | rfl | assumption | omega | (exfalso; omega)))⟩)) dX10_hasPlace_15
  · have b3 : ln_a.toInt < 200 := hw_inle c1
    refine lv_iconst (v := 1) hx hb dX10_hasPlace_10 (by decide) ?_
    refine lv_goto (tgt := 15) hx hb dX10_hasPlace_11 (by decide) ?_
    exact hw_iretR (v := 1) hx hb hr hlocks hQ rfl (Or.inl ⟨rfl, (by first | rfl | trivial | assumption | omega | (intros; first | rfl | assumption | omega | (exfalso; omega)))⟩) dX10_hasPlace_15

set_option maxHeartbeats 4000000 in
set_option maxRecDepth 100000 in
theorem k_X10_add (l : Launch) (D : hw_D) (G : Nat → Nat) (h0 : Nat) (p1 : Int32) (sz : Nat) (ra : Nat → Nat) (ln_a cl_a st_a en_a kf_a lf_a wf_a : Int32) (G0 : G h0 = 8) (Ra : hw_RT G ra) (gln_a : 0 ≤ ln_a.toInt ∧ ln_a.toInt ≤ 200) (gcl_a : 0 ≤ cl_a.toInt ∧ cl_a.toInt ≤ 20) (gst_a : 0 ≤ st_a.toInt ∧ st_a.toInt ≤ 200) (gen_a : 0 ≤ en_a.toInt ∧ en_a.toInt ≤ 200) : Met l yX10_add wsX10_add ({ frames := 1, cells := 0, slots := 0, locals := 20 } : Room) (hw_PC D G [.ref h0, .int p1] sz (fun H => va_at D.1 vwCl (h0, .inr (9, hw_LT ra ln_a cl_a st_a en_a kf_a lf_a wf_a)) H)) (hw_QM (fun v H => ∃ (ln_a2 : Int32), v = none ∧ hw_HT D G H ∧ va_at D.1 vwCl (h0, .inr (9, hw_LT ra ln_a2 cl_a st_a en_a kf_a lf_a wf_a)) H ∧ (0 ≤ ln_a2.toInt ∧ ln_a2.toInt ≤ 200) ∧ (ln_a.toInt < 200 → ln_a2.toInt = ln_a.toInt + 1)) (hw_AW G [8, 24] sz)) 0 0 (hw_AW G [8, 24] sz) := by
  refine hw_met (cc := cX10_add) (maxL := 2) (ret := none) (plainFor_of_name (by decide)) rfl (Nat.le_of_ble_eq_true rfl) ?_
  intro p e s m args below meth c QQ ls hsz hx hb hml hr hts hown hlocks hnm hH hK hST hF hQ hl
  subst hsz
  have hS : va_S (hw_AW G [8, 24] s.heap.size) s.heap s.heap [] := va_S.rf
  have va := hF
  have hl : lv_has ls 2 [(0, .ref h0), (1, .int p1)] := hl
  have u_9 : ∀ w ∈ u_ws RX10 TX10 10, w.before args s = true := fun w hw => hts w ((by decide +kernel : ∀ w ∈ u_ws RX10 TX10 10, w ∈ wsX10_add) w hw)
  have fg_11_9 : hw_FG s args m 11 9 0 := ⟨RX10, "WardWalkers$Text", RX10, TX10, 10, u_9, hown, rfl, by decide, (hts (.fieldLink RX10 11 "WardWalkers$Text" "letters" "[I") (by decide +kernel)), (fun _ h9 => h9)⟩
  have fg_21_9 : hw_FG s args m 21 9 1 := ⟨RX10, "WardWalkers$Text", RX10, TX10, 10, u_9, hown, rfl, by decide, (hts (.fieldLink RX10 21 "WardWalkers$Text" "length" "I") (by decide +kernel)), (fun _ h9 => h9)⟩
  have fp_21_9 : hw_FP s args m 21 9 1 false .int := ⟨RX10, "WardWalkers$Text", RX10, TX10, 10, tyX10, u_9, hown, rfl, by decide, (hts (.fieldLink RX10 21 "WardWalkers$Text" "length" "I") (by decide +kernel)), (fun _ h9 => h9), tyX10_ok, nmX10, rfl, (fun h => by cases h), by decide +kernel⟩
  refine lv_aload_n hx hb dX10_add_0 rfl (lv_at hl 0 rfl) ?_
  refine hw_cR (va_runV (As := []) (rest := []) ⟨hx, hb, hml, hown, hts⟩ (k_X10_hasPlace l D G h0 _ ra ln_a cl_a st_a en_a kf_a lf_a wf_a G0 Ra ⟨by first | decide | omega, by first | decide | omega⟩ ⟨by first | decide | omega, by first | decide | omega⟩ ⟨by first | decide | omega, by first | decide | omega⟩ ⟨by first | decide | omega, by first | decide | omega⟩) (cwV 0 hts gX10_add_X10_hasPlace rfl rfl rfl (by decide +kernel) ⟨Nat.le_of_ble_eq_true rfl, Nat.le_of_ble_eq_true rfl⟩) (hw_pV (hw_rc (q := (RX10, TX10, 10)) hK va rfl) hH hK hST hS (by decide) (fun _ h => Or.inl h) va) rfl rfl hl.1 rfl (lv_room (Nat.le_of_ble_eq_true rfl)) dX10_add_1 ⟨Nat.le_of_ble_eq_true rfl, Nat.le_of_ble_eq_true rfl⟩) (fun v hp => ?_)
  rcases hp with ⟨rfl, q1⟩ | ⟨rfl, q2⟩
  · refine lv_if_eq (tgt := 27) hx hb dX10_add_4 (by decide) (fun c3 => ?_) (fun c3 => ?_)
    · exact absurd c3 (by decide)
    · refine lv_aload_n hx hb dX10_add_7 rfl (lv_at hl 0 rfl) ?_
      refine hw_get hx hb fg_11_9 hK va rfl dX10_add_8 ?_
      refine lv_aload_n hx hb dX10_add_11 rfl (lv_at hl 0 rfl) ?_
      refine hw_get hx hb fg_21_9 hK va rfl dX10_add_12 ?_
      refine lv_iload_n hx hb dX10_add_15 rfl (lv_at hl 1 rfl) ?_
      obtain ⟨f4, v5⟩ := hH.a24 (hw_RT_0 Ra)
      refine hw_iast hx hb hK hH v5 (hw_in (by omega) (by omega)) (fun _ => by rw [(hw_RT_0 Ra)]; exact ⟨_, rfl⟩) hS (hw_AWi (hw_RT_0 Ra) (by decide)) dX10_add_16 (fun H locs hH v5 oq hz hS => ?_)
      have va := va_at.kept va (oq _ (hw_ne G0 (hw_RT_0 Ra) (by decide)))
      refine lv_aload_n hx hb dX10_add_17 rfl (lv_at hl 0 rfl) ?_
      refine lv_dup hx hb dX10_add_18 rfl ?_
      refine hw_get hx hb fg_21_9 hK va rfl dX10_add_19 ?_
      refine lv_iconst (v := 1) hx hb dX10_add_22 (by decide) ?_
      refine lv_iadd hx hb dX10_add_23 ?_
      refine lv_topi (fun x7 e8 => ?_)
      have t9 : x7.toInt = ln_a.toInt + 1 := by rw [e8]; exact hw_add rfl rfl (by omega) (by omega)
      refine hw_put (v := .int x7) (fs' := hw_LT ra x7 cl_a st_a en_a kf_a lf_a wf_a) hx hb fp_21_9 hK hH va (Nat.le_of_ble_eq_true rfl) rfl rfl rfl (fun _ => by rw [G0]; exact ⟨ra, x7, cl_a, st_a, en_a, kf_a, lf_a, wf_a, rfl, Ra, ⟨by first | decide | omega, by first | decide | omega⟩, ⟨by first | decide | omega, by first | decide | omega⟩, ⟨by first | decide | omega, by first | decide | omega⟩, ⟨by first | decide | omega, by first | decide | omega⟩⟩) hS (hw_AWi G0 (by decide)) dX10_add_24 (fun H locs hH va oq hz hS => ?_)
      exact hw_vretM hx hb hr hlocks hQ hS (⟨x7, rfl, hH, va, ⟨by first | decide | omega, by first | decide | omega⟩, (by first | rfl | trivial | assumption | omega | (intros; first | rfl | assumption | omega | (exfalso; omega)))⟩) dX10_add_27
  · refine lv_if_eq (tgt := 27) hx hb dX10_add_4 (by decide) (fun c10 => ?_) (fun c10 => ?_)
    · exact hw_vretM hx hb hr hlocks hQ hS (⟨ln_a, rfl, hH, va, ⟨by first | decide | omega, by first | decide | omega⟩, (by first | rfl | trivial | assumption | omega | (intros; first | rfl | assumption | omega | (exfalso; omega)))⟩) dX10_add_27
    · exact absurd c10 (by decide)

set_option maxHeartbeats 4000000 in
set_option maxRecDepth 100000 in
theorem k_X10_takeLetters (l : Launch) (D : hw_D) (G : Nat → Nat) (h0 : Nat) (p1 : Nat) (sz : Nat) (G0 : G h0 = 8) (G1 : G p1 = 8) : Met l yX10_takeLetters wsX10_takeLetters ({ frames := 0, cells := 0, slots := 0, locals := 0 } : Room) (hw_PC D G [.ref h0, .ref p1] sz (fun H => True)) (hw_QM (fun v H => v = none ∧ hw_HT D G H) (hw_AW G [8, 24] sz)) 0 0 (hw_AW G [8, 24] sz) := by
  refine hw_met (cc := cX10_takeLetters) (maxL := 3) (ret := none) (plainFor_of_name (by decide)) rfl (Nat.le_of_ble_eq_true rfl) ?_
  intro p e s m args below meth c QQ ls hsz hx hb hml hr hts hown hlocks hnm hH hK hST hF hQ hl
  subst hsz
  have hS : va_S (hw_AW G [8, 24] s.heap.size) s.heap s.heap [] := va_S.rf
  have hl : lv_has ls 3 [(0, .ref h0), (1, .ref p1)] := hl
  have u_9 : ∀ w ∈ u_ws RX10 TX10 10, w.before args s = true := fun w hw => hts w ((by decide +kernel : ∀ w ∈ u_ws RX10 TX10 10, w ∈ wsX10_takeLetters) w hw)
  have fg_21_9 : hw_FG s args m 21 9 1 := ⟨RX10, "WardWalkers$Text", RX10, TX10, 10, u_9, hown, rfl, by decide, (hts (.fieldLink RX10 21 "WardWalkers$Text" "length" "I") (by decide +kernel)), (fun _ h9 => h9)⟩
  have fp_21_9 : hw_FP s args m 21 9 1 false .int := ⟨RX10, "WardWalkers$Text", RX10, TX10, 10, tyX10, u_9, hown, rfl, by decide, (hts (.fieldLink RX10 21 "WardWalkers$Text" "length" "I") (by decide +kernel)), (fun _ h9 => h9), tyX10_ok, nmX10, rfl, (fun h => by cases h), by decide +kernel⟩
  have fg_11_9 : hw_FG s args m 11 9 0 := ⟨RX10, "WardWalkers$Text", RX10, TX10, 10, u_9, hown, rfl, by decide, (hts (.fieldLink RX10 11 "WardWalkers$Text" "letters" "[I") (by decide +kernel)), (fun _ h9 => h9)⟩
  refine lv_iconst (v := 0) hx hb dX10_takeLetters_0 (by decide) ?_
  refine lv_istore_n (lv' := [(2, .int 0), (0, .ref h0), (1, .ref p1)]) hx hb dX10_takeLetters_1 rfl hl (by decide) rfl (fun ls hl => ?_)
  have L2 : ∀ (n3 : Nat) (y2_1 : Int32) (hm : (200 - y2_1.toInt).toNat < n3) (g2 : 0 ≤ y2_1.toInt ∧ y2_1.toInt ≤ 200) (H : Heap) (locs : List Loc) (hH : hw_HT D G H) (hS : va_S (hw_AW G [8, 24] s.heap.size) s.heap H locs) (ls : Array Slot) (hl : lv_has ls 3 [(2, .int y2_1), (0, .ref h0), (1, .ref p1)]), W p l e ({ frames := 0, cells := 0, slots := 0, locals := 0 } : Room) s m args below meth c H locs 0 0 QQ (F0 m 2 ls []) := by
    intro n3
    induction n3 with
    | zero => intro y2_1 hm; exact absurd hm (Nat.not_lt_zero _)
    | succ n3 ih2 =>
      intro y2_1 hm g2 H locs hH hS ls hl
      refine lv_iload_n hx hb dX10_takeLetters_2 rfl (lv_at hl 0 rfl) ?_
      refine lv_aload_n hx hb dX10_takeLetters_3 rfl (lv_at hl 2 rfl) ?_
      obtain ⟨r4, ln_5, cl_6, st_7, en_8, kf_9, lf_10, wf_11, v12, R13, g14, g15, g16, g17⟩ := hH.oT G1
      refine hw_get hx hb fg_21_9 hK v12 rfl dX10_takeLetters_4 ?_
      refine lv_icmp_ge (tgt := 35) hx hb dX10_takeLetters_7 (by decide) (fun c18 => ?_) (fun c18 => ?_)
      · have b19 : ln_5.toInt ≤ y2_1.toInt := hw_ile c18
        refine lv_aload_n hx hb dX10_takeLetters_35 rfl (lv_at hl 1 rfl) ?_
        refine lv_aload_n hx hb dX10_takeLetters_36 rfl (lv_at hl 2 rfl) ?_
        refine hw_get hx hb fg_21_9 hK v12 rfl dX10_takeLetters_37 ?_
        obtain ⟨r20, ln_21, cl_22, st_23, en_24, kf_25, lf_26, wf_27, v28, R29, g30, g31, g32, g33⟩ := hH.oT G0
        refine hw_put (v := .int ln_5) (fs' := hw_LT r20 ln_5 cl_22 st_23 en_24 kf_25 lf_26 wf_27) hx hb fp_21_9 hK hH v28 (Nat.le_of_ble_eq_true rfl) rfl rfl rfl (fun _ => by rw [G0]; exact ⟨r20, ln_5, cl_22, st_23, en_24, kf_25, lf_26, wf_27, rfl, R29, ⟨by first | decide | omega, by first | decide | omega⟩, ⟨by first | decide | omega, by first | decide | omega⟩, ⟨by first | decide | omega, by first | decide | omega⟩, ⟨by first | decide | omega, by first | decide | omega⟩⟩) hS (hw_AWi G0 (by decide)) dX10_takeLetters_40 (fun H locs hH v28 oq hz hS => ?_)
        exact hw_vretM hx hb hr hlocks hQ hS (⟨rfl, hH⟩) dX10_takeLetters_43
      · have b34 : y2_1.toInt < ln_5.toInt := hw_inle c18
        refine lv_iload_n hx hb dX10_takeLetters_10 rfl (lv_at hl 0 rfl) ?_
        refine lv_sipush (v := 200) hx hb dX10_takeLetters_11 (by decide) ?_
        refine lv_icmp_ge (tgt := 35) hx hb dX10_takeLetters_14 (by decide) (fun c35 => ?_) (fun c35 => ?_)
        · have b36 : 200 ≤ y2_1.toInt := hw_ile c35
          exfalso; omega
        · have b37 : y2_1.toInt < 200 := hw_inle c35
          refine lv_aload_n hx hb dX10_takeLetters_17 rfl (lv_at hl 1 rfl) ?_
          obtain ⟨r38, ln_39, cl_40, st_41, en_42, kf_43, lf_44, wf_45, v46, R47, g48, g49, g50, g51⟩ := hH.oT G0
          refine hw_get hx hb fg_11_9 hK v46 rfl dX10_takeLetters_18 ?_
          refine lv_iload_n hx hb dX10_takeLetters_21 rfl (lv_at hl 0 rfl) ?_
          refine lv_aload_n hx hb dX10_takeLetters_22 rfl (lv_at hl 2 rfl) ?_
          refine hw_get hx hb fg_11_9 hK v12 rfl dX10_takeLetters_23 ?_
          refine lv_iload_n hx hb dX10_takeLetters_26 rfl (lv_at hl 0 rfl) ?_
          obtain ⟨f52, v53⟩ := hH.a24 (hw_RT_0 R13)
          refine hw_iald hx hb hK v53 (hw_in (by omega) (by omega)) dX10_takeLetters_27 ?_
          refine lv_topi (fun x55 e56 => ?_)
          obtain ⟨f57, v58⟩ := hH.a24 (hw_RT_0 R47)
          refine hw_iast hx hb hK hH v58 (hw_in (by omega) (by omega)) (fun _ => by rw [(hw_RT_0 R47)]; exact ⟨_, rfl⟩) hS (hw_AWi (hw_RT_0 R47) (by decide)) dX10_takeLetters_28 (fun H locs hH v58 oq hz hS => ?_)
          have v12 := va_at.kept v12 (oq _ (hw_ne G1 (hw_RT_0 R47) (by decide)))
          have v46 := va_at.kept v46 (oq _ (hw_ne G0 (hw_RT_0 R47) (by decide)))
          obtain ⟨x60, e61⟩ : ∃ y : Int32, y = y2_1 + 1 := ⟨_, rfl⟩
          refine lv_iinc (v := x60) (lv' := [(2, .int x60), (0, .ref h0), (1, .ref p1)]) hx hb dX10_takeLetters_29 hl (k := 0) rfl (by rw [e61]; rfl) (by decide) rfl (fun ls hl => ?_)
          have t62 : x60.toInt = y2_1.toInt + 1 := by rw [e61]; exact hw_add rfl rfl (by omega) (by omega)
          refine lv_goto (tgt := 2) hx hb dX10_takeLetters_32 (by decide) ?_
          exact ih2 x60 (by first | omega | omega) ⟨by first | decide | omega, by first | decide | omega⟩ _ _ hH hS _ (lv_sub hl [0, 1, 2] rfl)
  exact L2 _ 0 (Nat.lt_succ_self _) ⟨by first | decide | omega, by first | decide | omega⟩ _ _ hH hS _ (lv_sub hl [0, 1, 2] rfl)

set_option maxHeartbeats 4000000 in
set_option maxRecDepth 100000 in
theorem k_X10_wordOf (l : Launch) (D : hw_D) (G : Nat → Nat) (h0 : Nat) (p1 : Int32) (sz : Nat) (G0 : G h0 = 8) : Met l yX10_wordOf wsX10_wordOf ({ frames := 0, cells := 0, slots := 0, locals := 0 } : Room) (hw_PC D G [.ref h0, .int p1] sz (fun H => True)) (hw_QR (fun v => ∃ (r : Int32), v = .int r)) 0 0 (fun _ => False) := by
  refine hw_met (cc := cX10_wordOf) (maxL := 2) (ret := (some .int)) (plainFor_of_name (by decide)) rfl (Nat.le_of_ble_eq_true rfl) ?_
  intro p e s m args below meth c QQ ls hsz hx hb hml hr hts hown hlocks hnm hH hK hST hF hQ hl
  subst hsz
  have hS : va_S (hw_AW G [] s.heap.size) s.heap s.heap [] := va_S.rf
  have hl : lv_has ls 2 [(0, .ref h0), (1, .int p1)] := hl
  have u_9 : ∀ w ∈ u_ws RX10 TX10 10, w.before args s = true := fun w hw => hts w ((by decide +kernel : ∀ w ∈ u_ws RX10 TX10 10, w ∈ wsX10_wordOf) w hw)
  have fg_15_9 : hw_FG s args m 15 9 3 := ⟨RX10, "WardWalkers$Text", RX10, TX10, 10, u_9, hown, rfl, by decide, (hts (.fieldLink RX10 15 "WardWalkers$Text" "words" "[I") (by decide +kernel)), (fun _ h9 => h9)⟩
  refine lv_iload_n hx hb dX10_wordOf_0 rfl (lv_at hl 1 rfl) ?_
  refine lv_if_lt (tgt := 19) hx hb dX10_wordOf_1 (by decide) (fun c1 => ?_) (fun c1 => ?_)
  · have b2 : p1.toInt < 0 := hw_ilt c1
    refine lv_iconst (v := (-1)) hx hb dX10_wordOf_19 (by decide) ?_
    exact hw_iretR (v := (-1)) hx hb hr hlocks hQ rfl (⟨(-1), rfl⟩) dX10_wordOf_20
  · have b3 : 0 ≤ p1.toInt := hw_inlt c1
    refine lv_iload_n hx hb dX10_wordOf_4 rfl (lv_at hl 1 rfl) ?_
    refine lv_bipush (v := 20) hx hb dX10_wordOf_5 (by decide) ?_
    refine lv_icmp_ge (tgt := 19) hx hb dX10_wordOf_7 (by decide) (fun c4 => ?_) (fun c4 => ?_)
    · have b5 : 20 ≤ p1.toInt := hw_ile c4
      refine lv_iconst (v := (-1)) hx hb dX10_wordOf_19 (by decide) ?_
      exact hw_iretR (v := (-1)) hx hb hr hlocks hQ rfl (⟨(-1), rfl⟩) dX10_wordOf_20
    · have b6 : p1.toInt < 20 := hw_inle c4
      refine lv_aload_n hx hb dX10_wordOf_10 rfl (lv_at hl 0 rfl) ?_
      obtain ⟨r7, ln_8, cl_9, st_10, en_11, kf_12, lf_13, wf_14, v15, R16, g17, g18, g19, g20⟩ := hH.oT G0
      refine hw_get hx hb fg_15_9 hK v15 rfl dX10_wordOf_11 ?_
      refine lv_iload_n hx hb dX10_wordOf_14 rfl (lv_at hl 1 rfl) ?_
      obtain ⟨f21, v22⟩ := hH.a25 (hw_RT_3 R16)
      refine hw_iald hx hb hK v22 (hw_in (by omega) (by omega)) dX10_wordOf_15 ?_
      refine lv_topi (fun x24 e25 => ?_)
      refine lv_goto (tgt := 20) hx hb dX10_wordOf_16 (by decide) ?_
      exact hw_iretR (v := x24) hx hb hr hlocks hQ rfl (⟨x24, rfl⟩) dX10_wordOf_20

set_option maxHeartbeats 4000000 in
set_option maxRecDepth 100000 in
theorem k_X10_numberOf (l : Launch) (D : hw_D) (G : Nat → Nat) (h0 : Nat) (p1 : Int32) (p2 : Int32) (sz : Nat) (G0 : G h0 = 8) : Met l yX10_numberOf wsX10_numberOf ({ frames := 0, cells := 0, slots := 0, locals := 0 } : Room) (hw_PC D G [.ref h0, .int p1, .int p2] sz (fun H => True)) (hw_QR (fun v => ∃ (r : Int32), v = .int r)) 0 0 (fun _ => False) := by
  refine hw_met (cc := cX10_numberOf) (maxL := 4) (ret := (some .int)) (plainFor_of_name (by decide)) rfl (Nat.le_of_ble_eq_true rfl) ?_
  intro p e s m args below meth c QQ ls hsz hx hb hml hr hts hown hlocks hnm hH hK hST hF hQ hl
  subst hsz
  have hS : va_S (hw_AW G [] s.heap.size) s.heap s.heap [] := va_S.rf
  have hl : lv_has ls 4 [(0, .ref h0), (1, .int p1), (2, .int p2)] := hl
  have u_9 : ∀ w ∈ u_ws RX10 TX10 10, w.before args s = true := fun w hw => hts w ((by decide +kernel : ∀ w ∈ u_ws RX10 TX10 10, w ∈ wsX10_numberOf) w hw)
  have fg_18_9 : hw_FG s args m 18 9 4 := ⟨RX10, "WardWalkers$Text", RX10, TX10, 10, u_9, hown, rfl, by decide, (hts (.fieldLink RX10 18 "WardWalkers$Text" "numbers" "[I") (by decide +kernel)), (fun _ h9 => h9)⟩
  refine lv_iload_n hx hb dX10_numberOf_0 rfl (lv_at hl 1 rfl) ?_
  refine lv_iconst (v := 4) hx hb dX10_numberOf_1 (by decide) ?_
  refine lv_imul hx hb dX10_numberOf_2 ?_
  refine lv_topi (fun x1 e2 => ?_)
  refine lv_iload_n hx hb dX10_numberOf_3 rfl (lv_at hl 2 rfl) ?_
  refine lv_iadd hx hb dX10_numberOf_4 ?_
  refine lv_topi (fun x3 e4 => ?_)
  refine lv_istore_n (lv' := [(3, .int x3), (0, .ref h0), (1, .int p1), (2, .int p2)]) hx hb dX10_numberOf_5 rfl hl (by decide) rfl (fun ls hl => ?_)
  refine lv_iload_n hx hb dX10_numberOf_6 rfl (lv_at hl 0 rfl) ?_
  refine lv_if_lt (tgt := 25) hx hb dX10_numberOf_7 (by decide) (fun c5 => ?_) (fun c5 => ?_)
  · have b6 : x3.toInt < 0 := hw_ilt c5
    refine lv_iconst (v := 0) hx hb dX10_numberOf_25 (by decide) ?_
    exact hw_iretR (v := 0) hx hb hr hlocks hQ rfl (⟨0, rfl⟩) dX10_numberOf_26
  · have b7 : 0 ≤ x3.toInt := hw_inlt c5
    refine lv_iload_n hx hb dX10_numberOf_10 rfl (lv_at hl 0 rfl) ?_
    refine lv_bipush (v := 80) hx hb dX10_numberOf_11 (by decide) ?_
    refine lv_icmp_ge (tgt := 25) hx hb dX10_numberOf_13 (by decide) (fun c8 => ?_) (fun c8 => ?_)
    · have b9 : 80 ≤ x3.toInt := hw_ile c8
      refine lv_iconst (v := 0) hx hb dX10_numberOf_25 (by decide) ?_
      exact hw_iretR (v := 0) hx hb hr hlocks hQ rfl (⟨0, rfl⟩) dX10_numberOf_26
    · have b10 : x3.toInt < 80 := hw_inle c8
      refine lv_aload_n hx hb dX10_numberOf_16 rfl (lv_at hl 1 rfl) ?_
      obtain ⟨r11, ln_12, cl_13, st_14, en_15, kf_16, lf_17, wf_18, v19, R20, g21, g22, g23, g24⟩ := hH.oT G0
      refine hw_get hx hb fg_18_9 hK v19 rfl dX10_numberOf_17 ?_
      refine lv_iload_n hx hb dX10_numberOf_20 rfl (lv_at hl 0 rfl) ?_
      obtain ⟨f25, v26⟩ := hH.a26 (hw_RT_4 R20)
      refine hw_iald hx hb hK v26 (hw_in (by omega) (by omega)) dX10_numberOf_21 ?_
      refine lv_topi (fun x28 e29 => ?_)
      refine lv_goto (tgt := 26) hx hb dX10_numberOf_22 (by decide) ?_
      exact hw_iretR (v := x28) hx hb hr hlocks hQ rfl (⟨x28, rfl⟩) dX10_numberOf_26

set_option maxHeartbeats 4000000 in
set_option maxRecDepth 100000 in
theorem k_X10_nextToken (l : Launch) (D : hw_D) (G : Nat → Nat) (h0 : Nat) (sz : Nat) (ra : Nat → Nat) (ln_a cl_a st_a en_a kf_a lf_a wf_a : Int32) (G0 : G h0 = 8) (Ra : hw_RT G ra) (gln_a : 0 ≤ ln_a.toInt ∧ ln_a.toInt ≤ 200) (gcl_a : 0 ≤ cl_a.toInt ∧ cl_a.toInt ≤ 20) (gst_a : 0 ≤ st_a.toInt ∧ st_a.toInt ≤ 200) (gen_a : 0 ≤ en_a.toInt ∧ en_a.toInt ≤ 200) : Met l yX10_nextToken wsX10_nextToken ({ frames := 1, cells := 0, slots := 0, locals := 21 } : Room) (hw_PC D G [.ref h0] sz (fun H => va_at D.1 vwCl (h0, .inr (9, hw_LT ra ln_a cl_a st_a en_a kf_a lf_a wf_a)) H)) (hw_QM (fun v H => ∃ (st_a2 : Int32) (en_a2 : Int32), v = none ∧ hw_HT D G H ∧ va_at D.1 vwCl (h0, .inr (9, hw_LT ra ln_a cl_a st_a2 en_a2 kf_a lf_a wf_a)) H ∧ (0 ≤ st_a2.toInt ∧ st_a2.toInt ≤ 200) ∧ (0 ≤ en_a2.toInt ∧ en_a2.toInt ≤ 200) ∧ en_a.toInt ≤ st_a2.toInt ∧ st_a2.toInt ≤ en_a2.toInt ∧ (en_a.toInt ≤ ln_a.toInt → st_a2.toInt ≤ ln_a.toInt ∧ en_a2.toInt ≤ ln_a.toInt)) (hw_AW G [8] sz)) 0 0 (hw_AW G [8] sz) := by
  refine hw_met (cc := cX10_nextToken) (maxL := 2) (ret := none) (plainFor_of_name (by decide)) rfl (Nat.le_of_ble_eq_true rfl) ?_
  intro p e s m args below meth c QQ ls hsz hx hb hml hr hts hown hlocks hnm hH hK hST hF hQ hl
  subst hsz
  have hS : va_S (hw_AW G [8] s.heap.size) s.heap s.heap [] := va_S.rf
  have va := hF
  have hl : lv_has ls 2 [(0, .ref h0)] := hl
  have u_9 : ∀ w ∈ u_ws RX10 TX10 10, w.before args s = true := fun w hw => hts w ((by decide +kernel : ∀ w ∈ u_ws RX10 TX10 10, w ∈ wsX10_nextToken) w hw)
  have fg_32_9 : hw_FG s args m 32 9 6 := ⟨RX10, "WardWalkers$Text", RX10, TX10, 10, u_9, hown, rfl, by decide, (hts (.fieldLink RX10 32 "WardWalkers$Text" "end" "I") (by decide +kernel)), (fun _ h9 => h9)⟩
  have fp_61_9 : hw_FP s args m 61 9 5 false .int := ⟨RX10, "WardWalkers$Text", RX10, TX10, 10, tyX10, u_9, hown, rfl, by decide, (hts (.fieldLink RX10 61 "WardWalkers$Text" "start" "I") (by decide +kernel)), (fun _ h9 => h9), tyX10_ok, nmX10, rfl, (fun h => by cases h), by decide +kernel⟩
  have fg_61_9 : hw_FG s args m 61 9 5 := ⟨RX10, "WardWalkers$Text", RX10, TX10, 10, u_9, hown, rfl, by decide, (hts (.fieldLink RX10 61 "WardWalkers$Text" "start" "I") (by decide +kernel)), (fun _ h9 => h9)⟩
  have fg_21_9 : hw_FG s args m 21 9 1 := ⟨RX10, "WardWalkers$Text", RX10, TX10, 10, u_9, hown, rfl, by decide, (hts (.fieldLink RX10 21 "WardWalkers$Text" "length" "I") (by decide +kernel)), (fun _ h9 => h9)⟩
  have fp_32_9 : hw_FP s args m 32 9 6 false .int := ⟨RX10, "WardWalkers$Text", RX10, TX10, 10, tyX10, u_9, hown, rfl, by decide, (hts (.fieldLink RX10 32 "WardWalkers$Text" "end" "I") (by decide +kernel)), (fun _ h9 => h9), tyX10_ok, nmX10, rfl, (fun h => by cases h), by decide +kernel⟩
  refine lv_aload_n hx hb dX10_nextToken_0 rfl (lv_at hl 0 rfl) ?_
  refine lv_aload_n hx hb dX10_nextToken_1 rfl (lv_at hl 0 rfl) ?_
  refine hw_get hx hb fg_32_9 hK va rfl dX10_nextToken_2 ?_
  refine hw_put (v := .int en_a) (fs' := hw_LT ra ln_a cl_a en_a en_a kf_a lf_a wf_a) hx hb fp_61_9 hK hH va (Nat.le_of_ble_eq_true rfl) rfl rfl rfl (fun _ => by rw [G0]; exact ⟨ra, ln_a, cl_a, en_a, en_a, kf_a, lf_a, wf_a, rfl, Ra, ⟨by first | decide | omega, by first | decide | omega⟩, ⟨by first | decide | omega, by first | decide | omega⟩, ⟨by first | decide | omega, by first | decide | omega⟩, ⟨by first | decide | omega, by first | decide | omega⟩⟩) hS (hw_AWi G0 (by decide)) dX10_nextToken_5 (fun H locs hH va oq hz hS => ?_)
  have L8 : ∀ (n3 : Nat) (st_1 : Int32) (hm : (200 - st_1.toInt).toNat < n3) (g2 : 0 ≤ st_1.toInt ∧ st_1.toInt ≤ 200) (inv8_0 : en_a.toInt ≤ st_1.toInt) (inv8_1 : en_a.toInt ≤ ln_a.toInt → st_1.toInt ≤ ln_a.toInt) (H : Heap) (locs : List Loc) (hH : hw_HT D G H) (va : va_at D.1 vwCl (h0, .inr (9, hw_LT ra ln_a cl_a st_1 en_a kf_a lf_a wf_a)) H) (hS : va_S (hw_AW G [8] s.heap.size) s.heap H locs) (ls : Array Slot) (hl : lv_has ls 2 [(0, .ref h0)]), W p l e ({ frames := 1, cells := 0, slots := 0, locals := 21 } : Room) s m args below meth c H locs 0 0 QQ (F0 m 8 ls []) := by
    intro n3
    induction n3 with
    | zero => intro st_1 hm; exact absurd hm (Nat.not_lt_zero _)
    | succ n3 ih8 =>
      intro st_1 hm g2 inv8_0 inv8_1 H locs hH va hS ls hl
      refine lv_aload_n hx hb dX10_nextToken_8 rfl (lv_at hl 0 rfl) ?_
      refine hw_get hx hb fg_61_9 hK va rfl dX10_nextToken_9 ?_
      refine lv_aload_n hx hb dX10_nextToken_12 rfl (lv_at hl 0 rfl) ?_
      refine hw_get hx hb fg_21_9 hK va rfl dX10_nextToken_13 ?_
      refine lv_icmp_ge (tgt := 45) hx hb dX10_nextToken_16 (by decide) (fun c4 => ?_) (fun c4 => ?_)
      · have b5 : ln_a.toInt ≤ st_1.toInt := hw_ile c4
        refine lv_aload_n hx hb dX10_nextToken_45 rfl (lv_at hl 0 rfl) ?_
        refine lv_aload_n hx hb dX10_nextToken_46 rfl (lv_at hl 0 rfl) ?_
        refine hw_get hx hb fg_61_9 hK va rfl dX10_nextToken_47 ?_
        refine hw_put (v := .int st_1) (fs' := hw_LT ra ln_a cl_a st_1 st_1 kf_a lf_a wf_a) hx hb fp_32_9 hK hH va (Nat.le_of_ble_eq_true rfl) rfl rfl rfl (fun _ => by rw [G0]; exact ⟨ra, ln_a, cl_a, st_1, st_1, kf_a, lf_a, wf_a, rfl, Ra, ⟨by first | decide | omega, by first | decide | omega⟩, ⟨by first | decide | omega, by first | decide | omega⟩, ⟨by first | decide | omega, by first | decide | omega⟩, ⟨by first | decide | omega, by first | decide | omega⟩⟩) hS (hw_AWi G0 (by decide)) dX10_nextToken_50 (fun H locs hH va oq hz hS => ?_)
        refine lv_aload_n hx hb dX10_nextToken_53 rfl (lv_at hl 0 rfl) ?_
        refine hw_get hx hb fg_61_9 hK va rfl dX10_nextToken_54 ?_
        refine lv_aload_n hx hb dX10_nextToken_57 rfl (lv_at hl 0 rfl) ?_
        refine hw_get hx hb fg_21_9 hK va rfl dX10_nextToken_58 ?_
        refine lv_icmp_ge (tgt := 130) hx hb dX10_nextToken_61 (by decide) (fun c6 => ?_) (fun c6 => ?_)
        · have b7 : ln_a.toInt ≤ st_1.toInt := hw_ile c6
          exact hw_vretM hx hb hr hlocks hQ hS (⟨st_1, st_1, rfl, hH, va, ⟨by first | decide | omega, by first | decide | omega⟩, ⟨by first | decide | omega, by first | decide | omega⟩, (by first | rfl | trivial | assumption | omega | (intros; first | rfl | assumption | omega | (exfalso; omega))), (by first | rfl | trivial | assumption | omega | (intros; first | rfl | assumption | omega | (exfalso; omega))), (by first | rfl | trivial | assumption | omega | (intros; first | rfl | assumption | omega | (exfalso; omega)))⟩) dX10_nextToken_130
        · have b8 : st_1.toInt < ln_a.toInt := hw_inle c6
          refine lv_aload_n hx hb dX10_nextToken_64 rfl (lv_at hl 0 rfl) ?_
          refine lv_aload_n hx hb dX10_nextToken_65 rfl (lv_at hl 0 rfl) ?_
          refine hw_get hx hb fg_61_9 hK va rfl dX10_nextToken_66 ?_
          refine hw_cR (va_runV (As := [.int st_1]) (rest := []) ⟨hx, hb, hml, hown, hts⟩ (k_X10_letterAt l D G h0 st_1 _ G0) (cwV 1 hts gX10_nextToken_X10_letterAt rfl rfl rfl (by decide +kernel) ⟨Nat.le_of_ble_eq_true rfl, Nat.le_of_ble_eq_true rfl⟩) (hw_pV (hw_rc (q := (RX10, TX10, 10)) hK va rfl) hH hK hST hS (by decide) (fun _ h => Or.inl h) trivial) rfl rfl hl.1 rfl (lv_room (Nat.le_of_ble_eq_true rfl)) dX10_nextToken_69 ⟨Nat.le_of_ble_eq_true rfl, Nat.le_of_ble_eq_true rfl⟩) (fun v hp => ?_)
          obtain ⟨x9, rfl⟩ := hp
          refine hw_cR (va_runS (As := [.int x9]) (rest := []) ⟨hx, hb, hml, hown, hts⟩ (k_X10_sortOf l D G x9 _) (va_cwS 1 hts gX10_nextToken_X10_sortOf rfl rfl rfl (by decide +kernel) ⟨Nat.le_of_ble_eq_true rfl, Nat.le_of_ble_eq_true rfl⟩) (hw_pS hH hK hST hS (by decide) (fun _ h => Or.inl h) trivial) rfl rfl hl.1 rfl (lv_room (Nat.le_of_ble_eq_true rfl)) dX10_nextToken_72 ⟨Nat.le_of_ble_eq_true rfl, Nat.le_of_ble_eq_true rfl⟩) (fun v hp => ?_)
          obtain ⟨x10, rfl⟩ := hp
          refine lv_istore_n (lv' := [(1, .int x10), (0, .ref h0)]) hx hb dX10_nextToken_75 rfl hl (by decide) rfl (fun ls hl => ?_)
          refine lv_aload_n hx hb dX10_nextToken_76 rfl (lv_at hl 1 rfl) ?_
          refine lv_dup hx hb dX10_nextToken_77 rfl ?_
          refine hw_get hx hb fg_32_9 hK va rfl dX10_nextToken_78 ?_
          refine lv_iconst (v := 1) hx hb dX10_nextToken_81 (by decide) ?_
          refine lv_iadd hx hb dX10_nextToken_82 ?_
          refine lv_topi (fun x11 e12 => ?_)
          have t13 : x11.toInt = st_1.toInt + 1 := by rw [e12]; exact hw_add rfl rfl (by omega) (by omega)
          refine hw_put (v := .int x11) (fs' := hw_LT ra ln_a cl_a st_1 x11 kf_a lf_a wf_a) hx hb fp_32_9 hK hH va (Nat.le_of_ble_eq_true rfl) rfl rfl rfl (fun _ => by rw [G0]; exact ⟨ra, ln_a, cl_a, st_1, x11, kf_a, lf_a, wf_a, rfl, Ra, ⟨by first | decide | omega, by first | decide | omega⟩, ⟨by first | decide | omega, by first | decide | omega⟩, ⟨by first | decide | omega, by first | decide | omega⟩, ⟨by first | decide | omega, by first | decide | omega⟩⟩) hS (hw_AWi G0 (by decide)) dX10_nextToken_83 (fun H locs hH va oq hz hS => ?_)
          have L86 : ∀ (n16 : Nat) (en_14 : Int32) (hm : (200 - en_14.toInt).toNat < n16) (g15 : 0 ≤ en_14.toInt ∧ en_14.toInt ≤ 200) (inv86_0 : st_1.toInt ≤ en_14.toInt) (inv86_1 : en_14.toInt ≤ ln_a.toInt) (H : Heap) (locs : List Loc) (hH : hw_HT D G H) (va : va_at D.1 vwCl (h0, .inr (9, hw_LT ra ln_a cl_a st_1 en_14 kf_a lf_a wf_a)) H) (hS : va_S (hw_AW G [8] s.heap.size) s.heap H locs) (ls : Array Slot) (hl : lv_has ls 2 [(1, .int x10), (0, .ref h0)]), W p l e ({ frames := 1, cells := 0, slots := 0, locals := 21 } : Room) s m args below meth c H locs 0 0 QQ (F0 m 86 ls []) := by
            intro n16
            induction n16 with
            | zero => intro en_14 hm; exact absurd hm (Nat.not_lt_zero _)
            | succ n16 ih86 =>
              intro en_14 hm g15 inv86_0 inv86_1 H locs hH va hS ls hl
              refine lv_iload_n hx hb dX10_nextToken_86 rfl (lv_at hl 0 rfl) ?_
              refine lv_iconst (v := 2) hx hb dX10_nextToken_87 (by decide) ?_
              refine lv_icmp_eq (tgt := 130) hx hb dX10_nextToken_88 (by decide) (fun c17 => ?_) (fun c17 => ?_)
              · have b18 : x10.toInt = 2 := hw_ieq c17
                exact hw_vretM hx hb hr hlocks hQ hS (⟨st_1, en_14, rfl, hH, va, ⟨by first | decide | omega, by first | decide | omega⟩, ⟨by first | decide | omega, by first | decide | omega⟩, (by first | rfl | trivial | assumption | omega | (intros; first | rfl | assumption | omega | (exfalso; omega))), (by first | rfl | trivial | assumption | omega | (intros; first | rfl | assumption | omega | (exfalso; omega))), (by first | rfl | trivial | assumption | omega | (intros; first | rfl | assumption | omega | (exfalso; omega)))⟩) dX10_nextToken_130
              · have b19 : x10.toInt ≠ 2 := hw_ine c17
                refine lv_aload_n hx hb dX10_nextToken_91 rfl (lv_at hl 1 rfl) ?_
                refine hw_get hx hb fg_32_9 hK va rfl dX10_nextToken_92 ?_
                refine lv_aload_n hx hb dX10_nextToken_95 rfl (lv_at hl 1 rfl) ?_
                refine hw_get hx hb fg_21_9 hK va rfl dX10_nextToken_96 ?_
                refine lv_icmp_ge (tgt := 130) hx hb dX10_nextToken_99 (by decide) (fun c20 => ?_) (fun c20 => ?_)
                · have b21 : ln_a.toInt ≤ en_14.toInt := hw_ile c20
                  exact hw_vretM hx hb hr hlocks hQ hS (⟨st_1, en_14, rfl, hH, va, ⟨by first | decide | omega, by first | decide | omega⟩, ⟨by first | decide | omega, by first | decide | omega⟩, (by first | rfl | trivial | assumption | omega | (intros; first | rfl | assumption | omega | (exfalso; omega))), (by first | rfl | trivial | assumption | omega | (intros; first | rfl | assumption | omega | (exfalso; omega))), (by first | rfl | trivial | assumption | omega | (intros; first | rfl | assumption | omega | (exfalso; omega)))⟩) dX10_nextToken_130
                · have b22 : en_14.toInt < ln_a.toInt := hw_inle c20
                  refine lv_aload_n hx hb dX10_nextToken_102 rfl (lv_at hl 1 rfl) ?_
                  refine lv_aload_n hx hb dX10_nextToken_103 rfl (lv_at hl 1 rfl) ?_
                  refine hw_get hx hb fg_32_9 hK va rfl dX10_nextToken_104 ?_
                  refine hw_cR (va_runV (As := [.int en_14]) (rest := []) ⟨hx, hb, hml, hown, hts⟩ (k_X10_letterAt l D G h0 en_14 _ G0) (cwV 1 hts gX10_nextToken_X10_letterAt rfl rfl rfl (by decide +kernel) ⟨Nat.le_of_ble_eq_true rfl, Nat.le_of_ble_eq_true rfl⟩) (hw_pV (hw_rc (q := (RX10, TX10, 10)) hK va rfl) hH hK hST hS (by decide) (fun _ h => Or.inl h) trivial) rfl rfl hl.1 rfl (lv_room (Nat.le_of_ble_eq_true rfl)) dX10_nextToken_107 ⟨Nat.le_of_ble_eq_true rfl, Nat.le_of_ble_eq_true rfl⟩) (fun v hp => ?_)
                  obtain ⟨x23, rfl⟩ := hp
                  refine hw_cR (va_runS (As := [.int x23]) (rest := []) ⟨hx, hb, hml, hown, hts⟩ (k_X10_sortOf l D G x23 _) (va_cwS 1 hts gX10_nextToken_X10_sortOf rfl rfl rfl (by decide +kernel) ⟨Nat.le_of_ble_eq_true rfl, Nat.le_of_ble_eq_true rfl⟩) (hw_pS hH hK hST hS (by decide) (fun _ h => Or.inl h) trivial) rfl rfl hl.1 rfl (lv_room (Nat.le_of_ble_eq_true rfl)) dX10_nextToken_110 ⟨Nat.le_of_ble_eq_true rfl, Nat.le_of_ble_eq_true rfl⟩) (fun v hp => ?_)
                  obtain ⟨x24, rfl⟩ := hp
                  refine lv_iload_n hx hb dX10_nextToken_113 rfl (lv_at hl 0 rfl) ?_
                  refine lv_icmp_ne (tgt := 130) hx hb dX10_nextToken_114 (by decide) (fun c25 => ?_) (fun c25 => ?_)
                  · have b26 : x24.toInt ≠ x10.toInt := hw_ine c25
                    exact hw_vretM hx hb hr hlocks hQ hS (⟨st_1, en_14, rfl, hH, va, ⟨by first | decide | omega, by first | decide | omega⟩, ⟨by first | decide | omega, by first | decide | omega⟩, (by first | rfl | trivial | assumption | omega | (intros; first | rfl | assumption | omega | (exfalso; omega))), (by first | rfl | trivial | assumption | omega | (intros; first | rfl | assumption | omega | (exfalso; omega))), (by first | rfl | trivial | assumption | omega | (intros; first | rfl | assumption | omega | (exfalso; omega)))⟩) dX10_nextToken_130
                  · have b27 : x24.toInt = x10.toInt := hw_ieq c25
                    refine lv_aload_n hx hb dX10_nextToken_117 rfl (lv_at hl 1 rfl) ?_
                    refine lv_dup hx hb dX10_nextToken_118 rfl ?_
                    refine hw_get hx hb fg_32_9 hK va rfl dX10_nextToken_119 ?_
                    refine lv_iconst (v := 1) hx hb dX10_nextToken_122 (by decide) ?_
                    refine lv_iadd hx hb dX10_nextToken_123 ?_
                    refine lv_topi (fun x28 e29 => ?_)
                    have t30 : x28.toInt = en_14.toInt + 1 := by rw [e29]; exact hw_add rfl rfl (by omega) (by omega)
                    refine hw_put (v := .int x28) (fs' := hw_LT ra ln_a cl_a st_1 x28 kf_a lf_a wf_a) hx hb fp_32_9 hK hH va (Nat.le_of_ble_eq_true rfl) rfl rfl rfl (fun _ => by rw [G0]; exact ⟨ra, ln_a, cl_a, st_1, x28, kf_a, lf_a, wf_a, rfl, Ra, ⟨by first | decide | omega, by first | decide | omega⟩, ⟨by first | decide | omega, by first | decide | omega⟩, ⟨by first | decide | omega, by first | decide | omega⟩, ⟨by first | decide | omega, by first | decide | omega⟩⟩) hS (hw_AWi G0 (by decide)) dX10_nextToken_124 (fun H locs hH va oq hz hS => ?_)
                    refine lv_goto (tgt := 86) hx hb dX10_nextToken_127 (by decide) ?_
                    exact ih86 x28 (by first | omega | omega) ⟨by first | decide | omega, by first | decide | omega⟩ (by first | assumption | omega | decide | rfl | (intros; first | rfl | assumption | omega)) (by first | assumption | omega | decide | rfl | (intros; first | rfl | assumption | omega)) _ _ hH va hS _ (lv_sub hl [0, 1] rfl)
          exact L86 _ x11 (Nat.lt_succ_self _) ⟨by first | decide | omega, by first | decide | omega⟩ (by first | assumption | omega | decide | rfl | (intros; first | rfl | assumption | omega)) (by first | assumption | omega | decide | rfl | (intros; first | rfl | assumption | omega)) _ _ hH va hS _ (lv_sub hl [0, 1] rfl)
      · have b31 : st_1.toInt < ln_a.toInt := hw_inle c4
        refine lv_aload_n hx hb dX10_nextToken_19 rfl (lv_at hl 0 rfl) ?_
        refine lv_aload_n hx hb dX10_nextToken_20 rfl (lv_at hl 0 rfl) ?_
        refine hw_get hx hb fg_61_9 hK va rfl dX10_nextToken_21 ?_
        refine hw_cR (va_runV (As := [.int st_1]) (rest := []) ⟨hx, hb, hml, hown, hts⟩ (k_X10_letterAt l D G h0 st_1 _ G0) (cwV 1 hts gX10_nextToken_X10_letterAt rfl rfl rfl (by decide +kernel) ⟨Nat.le_of_ble_eq_true rfl, Nat.le_of_ble_eq_true rfl⟩) (hw_pV (hw_rc (q := (RX10, TX10, 10)) hK va rfl) hH hK hST hS (by decide) (fun _ h => Or.inl h) trivial) rfl rfl hl.1 rfl (lv_room (Nat.le_of_ble_eq_true rfl)) dX10_nextToken_24 ⟨Nat.le_of_ble_eq_true rfl, Nat.le_of_ble_eq_true rfl⟩) (fun v hp => ?_)
        obtain ⟨x32, rfl⟩ := hp
        refine lv_bipush (v := 32) hx hb dX10_nextToken_27 (by decide) ?_
        refine lv_icmp_ne (tgt := 45) hx hb dX10_nextToken_29 (by decide) (fun c33 => ?_) (fun c33 => ?_)
        · have b34 : x32.toInt ≠ 32 := hw_ine c33
          refine lv_aload_n hx hb dX10_nextToken_45 rfl (lv_at hl 0 rfl) ?_
          refine lv_aload_n hx hb dX10_nextToken_46 rfl (lv_at hl 0 rfl) ?_
          refine hw_get hx hb fg_61_9 hK va rfl dX10_nextToken_47 ?_
          refine hw_put (v := .int st_1) (fs' := hw_LT ra ln_a cl_a st_1 st_1 kf_a lf_a wf_a) hx hb fp_32_9 hK hH va (Nat.le_of_ble_eq_true rfl) rfl rfl rfl (fun _ => by rw [G0]; exact ⟨ra, ln_a, cl_a, st_1, st_1, kf_a, lf_a, wf_a, rfl, Ra, ⟨by first | decide | omega, by first | decide | omega⟩, ⟨by first | decide | omega, by first | decide | omega⟩, ⟨by first | decide | omega, by first | decide | omega⟩, ⟨by first | decide | omega, by first | decide | omega⟩⟩) hS (hw_AWi G0 (by decide)) dX10_nextToken_50 (fun H locs hH va oq hz hS => ?_)
          refine lv_aload_n hx hb dX10_nextToken_53 rfl (lv_at hl 0 rfl) ?_
          refine hw_get hx hb fg_61_9 hK va rfl dX10_nextToken_54 ?_
          refine lv_aload_n hx hb dX10_nextToken_57 rfl (lv_at hl 0 rfl) ?_
          refine hw_get hx hb fg_21_9 hK va rfl dX10_nextToken_58 ?_
          refine lv_icmp_ge (tgt := 130) hx hb dX10_nextToken_61 (by decide) (fun c35 => ?_) (fun c35 => ?_)
          · have b36 : ln_a.toInt ≤ st_1.toInt := hw_ile c35
            exact hw_vretM hx hb hr hlocks hQ hS (⟨st_1, st_1, rfl, hH, va, ⟨by first | decide | omega, by first | decide | omega⟩, ⟨by first | decide | omega, by first | decide | omega⟩, (by first | rfl | trivial | assumption | omega | (intros; first | rfl | assumption | omega | (exfalso; omega))), (by first | rfl | trivial | assumption | omega | (intros; first | rfl | assumption | omega | (exfalso; omega))), (by first | rfl | trivial | assumption | omega | (intros; first | rfl | assumption | omega | (exfalso; omega)))⟩) dX10_nextToken_130
          · have b37 : st_1.toInt < ln_a.toInt := hw_inle c35
            refine lv_aload_n hx hb dX10_nextToken_64 rfl (lv_at hl 0 rfl) ?_
            refine lv_aload_n hx hb dX10_nextToken_65 rfl (lv_at hl 0 rfl) ?_
            refine hw_get hx hb fg_61_9 hK va rfl dX10_nextToken_66 ?_
            refine hw_cR (va_runV (As := [.int st_1]) (rest := []) ⟨hx, hb, hml, hown, hts⟩ (k_X10_letterAt l D G h0 st_1 _ G0) (cwV 1 hts gX10_nextToken_X10_letterAt rfl rfl rfl (by decide +kernel) ⟨Nat.le_of_ble_eq_true rfl, Nat.le_of_ble_eq_true rfl⟩) (hw_pV (hw_rc (q := (RX10, TX10, 10)) hK va rfl) hH hK hST hS (by decide) (fun _ h => Or.inl h) trivial) rfl rfl hl.1 rfl (lv_room (Nat.le_of_ble_eq_true rfl)) dX10_nextToken_69 ⟨Nat.le_of_ble_eq_true rfl, Nat.le_of_ble_eq_true rfl⟩) (fun v hp => ?_)
            obtain ⟨x38, rfl⟩ := hp
            refine hw_cR (va_runS (As := [.int x38]) (rest := []) ⟨hx, hb, hml, hown, hts⟩ (k_X10_sortOf l D G x38 _) (va_cwS 1 hts gX10_nextToken_X10_sortOf rfl rfl rfl (by decide +kernel) ⟨Nat.le_of_ble_eq_true rfl, Nat.le_of_ble_eq_true rfl⟩) (hw_pS hH hK hST hS (by decide) (fun _ h => Or.inl h) trivial) rfl rfl hl.1 rfl (lv_room (Nat.le_of_ble_eq_true rfl)) dX10_nextToken_72 ⟨Nat.le_of_ble_eq_true rfl, Nat.le_of_ble_eq_true rfl⟩) (fun v hp => ?_)
            obtain ⟨x39, rfl⟩ := hp
            refine lv_istore_n (lv' := [(1, .int x39), (0, .ref h0)]) hx hb dX10_nextToken_75 rfl hl (by decide) rfl (fun ls hl => ?_)
            refine lv_aload_n hx hb dX10_nextToken_76 rfl (lv_at hl 1 rfl) ?_
            refine lv_dup hx hb dX10_nextToken_77 rfl ?_
            refine hw_get hx hb fg_32_9 hK va rfl dX10_nextToken_78 ?_
            refine lv_iconst (v := 1) hx hb dX10_nextToken_81 (by decide) ?_
            refine lv_iadd hx hb dX10_nextToken_82 ?_
            refine lv_topi (fun x40 e41 => ?_)
            have t42 : x40.toInt = st_1.toInt + 1 := by rw [e41]; exact hw_add rfl rfl (by omega) (by omega)
            refine hw_put (v := .int x40) (fs' := hw_LT ra ln_a cl_a st_1 x40 kf_a lf_a wf_a) hx hb fp_32_9 hK hH va (Nat.le_of_ble_eq_true rfl) rfl rfl rfl (fun _ => by rw [G0]; exact ⟨ra, ln_a, cl_a, st_1, x40, kf_a, lf_a, wf_a, rfl, Ra, ⟨by first | decide | omega, by first | decide | omega⟩, ⟨by first | decide | omega, by first | decide | omega⟩, ⟨by first | decide | omega, by first | decide | omega⟩, ⟨by first | decide | omega, by first | decide | omega⟩⟩) hS (hw_AWi G0 (by decide)) dX10_nextToken_83 (fun H locs hH va oq hz hS => ?_)
            have L86 : ∀ (n45 : Nat) (en_43 : Int32) (hm : (200 - en_43.toInt).toNat < n45) (g44 : 0 ≤ en_43.toInt ∧ en_43.toInt ≤ 200) (inv86_0 : st_1.toInt ≤ en_43.toInt) (inv86_1 : en_43.toInt ≤ ln_a.toInt) (H : Heap) (locs : List Loc) (hH : hw_HT D G H) (va : va_at D.1 vwCl (h0, .inr (9, hw_LT ra ln_a cl_a st_1 en_43 kf_a lf_a wf_a)) H) (hS : va_S (hw_AW G [8] s.heap.size) s.heap H locs) (ls : Array Slot) (hl : lv_has ls 2 [(1, .int x39), (0, .ref h0)]), W p l e ({ frames := 1, cells := 0, slots := 0, locals := 21 } : Room) s m args below meth c H locs 0 0 QQ (F0 m 86 ls []) := by
              intro n45
              induction n45 with
              | zero => intro en_43 hm; exact absurd hm (Nat.not_lt_zero _)
              | succ n45 ih86 =>
                intro en_43 hm g44 inv86_0 inv86_1 H locs hH va hS ls hl
                refine lv_iload_n hx hb dX10_nextToken_86 rfl (lv_at hl 0 rfl) ?_
                refine lv_iconst (v := 2) hx hb dX10_nextToken_87 (by decide) ?_
                refine lv_icmp_eq (tgt := 130) hx hb dX10_nextToken_88 (by decide) (fun c46 => ?_) (fun c46 => ?_)
                · have b47 : x39.toInt = 2 := hw_ieq c46
                  exact hw_vretM hx hb hr hlocks hQ hS (⟨st_1, en_43, rfl, hH, va, ⟨by first | decide | omega, by first | decide | omega⟩, ⟨by first | decide | omega, by first | decide | omega⟩, (by first | rfl | trivial | assumption | omega | (intros; first | rfl | assumption | omega | (exfalso; omega))), (by first | rfl | trivial | assumption | omega | (intros; first | rfl | assumption | omega | (exfalso; omega))), (by first | rfl | trivial | assumption | omega | (intros; first | rfl | assumption | omega | (exfalso; omega)))⟩) dX10_nextToken_130
                · have b48 : x39.toInt ≠ 2 := hw_ine c46
                  refine lv_aload_n hx hb dX10_nextToken_91 rfl (lv_at hl 1 rfl) ?_
                  refine hw_get hx hb fg_32_9 hK va rfl dX10_nextToken_92 ?_
                  refine lv_aload_n hx hb dX10_nextToken_95 rfl (lv_at hl 1 rfl) ?_
                  refine hw_get hx hb fg_21_9 hK va rfl dX10_nextToken_96 ?_
                  refine lv_icmp_ge (tgt := 130) hx hb dX10_nextToken_99 (by decide) (fun c49 => ?_) (fun c49 => ?_)
                  · have b50 : ln_a.toInt ≤ en_43.toInt := hw_ile c49
                    exact hw_vretM hx hb hr hlocks hQ hS (⟨st_1, en_43, rfl, hH, va, ⟨by first | decide | omega, by first | decide | omega⟩, ⟨by first | decide | omega, by first | decide | omega⟩, (by first | rfl | trivial | assumption | omega | (intros; first | rfl | assumption | omega | (exfalso; omega))), (by first | rfl | trivial | assumption | omega | (intros; first | rfl | assumption | omega | (exfalso; omega))), (by first | rfl | trivial | assumption | omega | (intros; first | rfl | assumption | omega | (exfalso; omega)))⟩) dX10_nextToken_130
                  · have b51 : en_43.toInt < ln_a.toInt := hw_inle c49
                    refine lv_aload_n hx hb dX10_nextToken_102 rfl (lv_at hl 1 rfl) ?_
                    refine lv_aload_n hx hb dX10_nextToken_103 rfl (lv_at hl 1 rfl) ?_
                    refine hw_get hx hb fg_32_9 hK va rfl dX10_nextToken_104 ?_
                    refine hw_cR (va_runV (As := [.int en_43]) (rest := []) ⟨hx, hb, hml, hown, hts⟩ (k_X10_letterAt l D G h0 en_43 _ G0) (cwV 1 hts gX10_nextToken_X10_letterAt rfl rfl rfl (by decide +kernel) ⟨Nat.le_of_ble_eq_true rfl, Nat.le_of_ble_eq_true rfl⟩) (hw_pV (hw_rc (q := (RX10, TX10, 10)) hK va rfl) hH hK hST hS (by decide) (fun _ h => Or.inl h) trivial) rfl rfl hl.1 rfl (lv_room (Nat.le_of_ble_eq_true rfl)) dX10_nextToken_107 ⟨Nat.le_of_ble_eq_true rfl, Nat.le_of_ble_eq_true rfl⟩) (fun v hp => ?_)
                    obtain ⟨x52, rfl⟩ := hp
                    refine hw_cR (va_runS (As := [.int x52]) (rest := []) ⟨hx, hb, hml, hown, hts⟩ (k_X10_sortOf l D G x52 _) (va_cwS 1 hts gX10_nextToken_X10_sortOf rfl rfl rfl (by decide +kernel) ⟨Nat.le_of_ble_eq_true rfl, Nat.le_of_ble_eq_true rfl⟩) (hw_pS hH hK hST hS (by decide) (fun _ h => Or.inl h) trivial) rfl rfl hl.1 rfl (lv_room (Nat.le_of_ble_eq_true rfl)) dX10_nextToken_110 ⟨Nat.le_of_ble_eq_true rfl, Nat.le_of_ble_eq_true rfl⟩) (fun v hp => ?_)
                    obtain ⟨x53, rfl⟩ := hp
                    refine lv_iload_n hx hb dX10_nextToken_113 rfl (lv_at hl 0 rfl) ?_
                    refine lv_icmp_ne (tgt := 130) hx hb dX10_nextToken_114 (by decide) (fun c54 => ?_) (fun c54 => ?_)
                    · have b55 : x53.toInt ≠ x39.toInt := hw_ine c54
                      exact hw_vretM hx hb hr hlocks hQ hS (⟨st_1, en_43, rfl, hH, va, ⟨by first | decide | omega, by first | decide | omega⟩, ⟨by first | decide | omega, by first | decide | omega⟩, (by first | rfl | trivial | assumption | omega | (intros; first | rfl | assumption | omega | (exfalso; omega))), (by first | rfl | trivial | assumption | omega | (intros; first | rfl | assumption | omega | (exfalso; omega))), (by first | rfl | trivial | assumption | omega | (intros; first | rfl | assumption | omega | (exfalso; omega)))⟩) dX10_nextToken_130
                    · have b56 : x53.toInt = x39.toInt := hw_ieq c54
                      refine lv_aload_n hx hb dX10_nextToken_117 rfl (lv_at hl 1 rfl) ?_
                      refine lv_dup hx hb dX10_nextToken_118 rfl ?_
                      refine hw_get hx hb fg_32_9 hK va rfl dX10_nextToken_119 ?_
                      refine lv_iconst (v := 1) hx hb dX10_nextToken_122 (by decide) ?_
                      refine lv_iadd hx hb dX10_nextToken_123 ?_
                      refine lv_topi (fun x57 e58 => ?_)
                      have t59 : x57.toInt = en_43.toInt + 1 := by rw [e58]; exact hw_add rfl rfl (by omega) (by omega)
                      refine hw_put (v := .int x57) (fs' := hw_LT ra ln_a cl_a st_1 x57 kf_a lf_a wf_a) hx hb fp_32_9 hK hH va (Nat.le_of_ble_eq_true rfl) rfl rfl rfl (fun _ => by rw [G0]; exact ⟨ra, ln_a, cl_a, st_1, x57, kf_a, lf_a, wf_a, rfl, Ra, ⟨by first | decide | omega, by first | decide | omega⟩, ⟨by first | decide | omega, by first | decide | omega⟩, ⟨by first | decide | omega, by first | decide | omega⟩, ⟨by first | decide | omega, by first | decide | omega⟩⟩) hS (hw_AWi G0 (by decide)) dX10_nextToken_124 (fun H locs hH va oq hz hS => ?_)
                      refine lv_goto (tgt := 86) hx hb dX10_nextToken_127 (by decide) ?_
                      exact ih86 x57 (by first | omega | omega) ⟨by first | decide | omega, by first | decide | omega⟩ (by first | assumption | omega | decide | rfl | (intros; first | rfl | assumption | omega)) (by first | assumption | omega | decide | rfl | (intros; first | rfl | assumption | omega)) _ _ hH va hS _ (lv_sub hl [0, 1] rfl)
            exact L86 _ x40 (Nat.lt_succ_self _) ⟨by first | decide | omega, by first | decide | omega⟩ (by first | assumption | omega | decide | rfl | (intros; first | rfl | assumption | omega)) (by first | assumption | omega | decide | rfl | (intros; first | rfl | assumption | omega)) _ _ hH va hS _ (lv_sub hl [0, 1] rfl)
        · have b60 : x32.toInt = 32 := hw_ieq c33
          refine lv_aload_n hx hb dX10_nextToken_32 rfl (lv_at hl 0 rfl) ?_
          refine lv_dup hx hb dX10_nextToken_33 rfl ?_
          refine hw_get hx hb fg_61_9 hK va rfl dX10_nextToken_34 ?_
          refine lv_iconst (v := 1) hx hb dX10_nextToken_37 (by decide) ?_
          refine lv_iadd hx hb dX10_nextToken_38 ?_
          refine lv_topi (fun x61 e62 => ?_)
          have t63 : x61.toInt = st_1.toInt + 1 := by rw [e62]; exact hw_add rfl rfl (by omega) (by omega)
          refine hw_put (v := .int x61) (fs' := hw_LT ra ln_a cl_a x61 en_a kf_a lf_a wf_a) hx hb fp_61_9 hK hH va (Nat.le_of_ble_eq_true rfl) rfl rfl rfl (fun _ => by rw [G0]; exact ⟨ra, ln_a, cl_a, x61, en_a, kf_a, lf_a, wf_a, rfl, Ra, ⟨by first | decide | omega, by first | decide | omega⟩, ⟨by first | decide | omega, by first | decide | omega⟩, ⟨by first | decide | omega, by first | decide | omega⟩, ⟨by first | decide | omega, by first | decide | omega⟩⟩) hS (hw_AWi G0 (by decide)) dX10_nextToken_39 (fun H locs hH va oq hz hS => ?_)
          refine lv_goto (tgt := 8) hx hb dX10_nextToken_42 (by decide) ?_
          exact ih8 x61 (by first | omega | omega) ⟨by first | decide | omega, by first | decide | omega⟩ (by first | assumption | omega | decide | rfl | (intros; first | rfl | assumption | omega)) (by first | assumption | omega | decide | rfl | (intros; first | rfl | assumption | omega)) _ _ hH va hS _ (lv_sub hl [0] rfl)
  exact L8 _ en_a (Nat.lt_succ_self _) ⟨by first | decide | omega, by first | decide | omega⟩ (by first | assumption | omega | decide | rfl | (intros; first | rfl | assumption | omega)) (by first | assumption | omega | decide | rfl | (intros; first | rfl | assumption | omega)) _ _ hH va hS _ (lv_sub hl [0] rfl)

set_option maxHeartbeats 4000000 in
set_option maxRecDepth 100000 in
theorem k_X10_isHere (l : Launch) (D : hw_D) (G : Nat → Nat) (h0 : Nat) (sz : Nat) (i : Nat) (ra : Nat → Nat) (ln_a cl_a st_a en_a kf_a lf_a wf_a : Int32) (G0 : G h0 = 8) (Ra : hw_RT G ra) (gln_a : 0 ≤ ln_a.toInt ∧ ln_a.toInt ≤ 200) (gcl_a : 0 ≤ cl_a.toInt ∧ cl_a.toInt ≤ 20) (gst_a : 0 ≤ st_a.toInt ∧ st_a.toInt ≤ 200) (gen_a : 0 ≤ en_a.toInt ∧ en_a.toInt ≤ 200) (hi : i < 8) : Met l yX10_isHere wsX10_isHere ({ frames := 4, cells := 0, slots := 0, locals := 85 } : Room) (hw_PC D G [.ref h0, .ref (D.2.2 (2 + i))] sz (fun H => va_at D.1 vwCl (h0, .inr (9, hw_LT ra ln_a cl_a st_a en_a kf_a lf_a wf_a)) H)) (hw_QM (fun v H => (v = some (.int 0) ∧ hw_HT D G H ∧ va_at D.1 vwCl (h0, .inr (9, hw_LT ra ln_a cl_a st_a en_a kf_a lf_a wf_a)) H) ∨ (v = some (.int 1) ∧ hw_HT D G H ∧ va_at D.1 vwCl (h0, .inr (9, hw_LT ra ln_a cl_a st_a en_a kf_a lf_a wf_a)) H ∧ 4 ≤ en_a.toInt - st_a.toInt)) (hw_AW G [] sz)) 0 0 (hw_AW G [] sz) := by
  refine hw_met (cc := cX10_isHere) (maxL := 3) (ret := (some .boolean)) (plainFor_of_name (by decide)) rfl (Nat.le_of_ble_eq_true rfl) ?_
  intro p e s m args below meth c QQ ls hsz hx hb hml hr hts hown hlocks hnm hH hK hST hF hQ hl
  subst hsz
  have hS : va_S (hw_AW G [] s.heap.size) s.heap s.heap [] := va_S.rf
  have va := hF
  have hl : lv_has ls 3 [(0, .ref h0), (1, .ref (D.2.2 (2 + i)))] := hl
  have u_9 : ∀ w ∈ u_ws RX10 TX10 10, w.before args s = true := fun w hw => hts w ((by decide +kernel : ∀ w ∈ u_ws RX10 TX10 10, w ∈ wsX10_isHere) w hw)
  have fg_32_9 : hw_FG s args m 32 9 6 := ⟨RX10, "WardWalkers$Text", RX10, TX10, 10, u_9, hown, rfl, by decide, (hts (.fieldLink RX10 32 "WardWalkers$Text" "end" "I") (by decide +kernel)), (fun _ h9 => h9)⟩
  have fg_61_9 : hw_FG s args m 61 9 5 := ⟨RX10, "WardWalkers$Text", RX10, TX10, 10, u_9, hown, rfl, by decide, (hts (.fieldLink RX10 61 "WardWalkers$Text" "start" "I") (by decide +kernel)), (fun _ h9 => h9)⟩
  have hsl := hw_sl_rng i hi
  refine lv_aload_n hx hb dX10_isHere_0 rfl (lv_at hl 0 rfl) ?_
  refine hw_get hx hb fg_32_9 hK va rfl dX10_isHere_1 ?_
  refine lv_aload_n hx hb dX10_isHere_4 rfl (lv_at hl 0 rfl) ?_
  refine hw_get hx hb fg_61_9 hK va rfl dX10_isHere_5 ?_
  refine lv_isub hx hb dX10_isHere_8 ?_
  refine lv_topi (fun x1 e2 => ?_)
  have t3 : x1.toInt = en_a.toInt - st_a.toInt := by rw [e2]; exact hw_sub rfl rfl (by omega) (by omega)
  refine lv_aload_n hx hb dX10_isHere_9 rfl (lv_at hl 1 rfl) ?_
  refine hw_cR (va_runV (As := []) (rest := [.int x1]) ⟨hx, hb, hml, hown, hts⟩ (k_J0_length_8abf5 l D G _ i hi) (cwV 0 hts gX10_isHere_J0_length_8abf5 rfl rfl rfl (by decide +kernel) ⟨Nat.le_of_ble_eq_true rfl, Nat.le_of_ble_eq_true rfl⟩) (hw_pV (vk_recv (A := (hw_AW G [] s.heap.size)) (i := i) (hST.2.2.2.2.2.2.1.narrow (fun q h9 => hw_NGsub (by decide) q h9)) hi hS) hH hK hST hS (by decide) (fun _ h => Or.inl h) trivial) rfl rfl hl.1 rfl (lv_room (Nat.le_of_ble_eq_true rfl)) dX10_isHere_10 ⟨Nat.le_of_ble_eq_true rfl, Nat.le_of_ble_eq_true rfl⟩) (fun v hp => ?_)
  obtain ⟨x4, rfl, q5⟩ := hp
  refine lv_icmp_eq (tgt := 18) hx hb dX10_isHere_13 (by decide) (fun c6 => ?_) (fun c6 => ?_)
  · have b7 : x1.toInt = x4.toInt := hw_ieq c6
    refine lv_iconst (v := 0) hx hb dX10_isHere_18 (by decide) ?_
    refine lv_istore_n (lv' := [(2, .int 0), (0, .ref h0), (1, .ref (D.2.2 (2 + i)))]) hx hb dX10_isHere_19 rfl hl (by decide) rfl (fun ls hl => ?_)
    have L20 : ∀ (n10 : Nat) (y2_8 : Int32) (hm : (6 - y2_8.toInt).toNat < n10) (g9 : 0 ≤ y2_8.toInt ∧ y2_8.toInt ≤ 6) (H : Heap) (locs : List Loc) (hH : hw_HT D G H) (va : va_at D.1 vwCl (h0, .inr (9, hw_LT ra ln_a cl_a st_a en_a kf_a lf_a wf_a)) H) (hS : va_S (hw_AW G [] s.heap.size) s.heap H locs) (ls : Array Slot) (hl : lv_has ls 3 [(2, .int y2_8), (0, .ref h0), (1, .ref (D.2.2 (2 + i)))]), W p l e ({ frames := 4, cells := 0, slots := 0, locals := 85 } : Room) s m args below meth c H locs 0 0 QQ (F0 m 20 ls []) := by
      intro n10
      induction n10 with
      | zero => intro y2_8 hm; exact absurd hm (Nat.not_lt_zero _)
      | succ n10 ih20 =>
        intro y2_8 hm g9 H locs hH va hS ls hl
        refine lv_iload_n hx hb dX10_isHere_20 rfl (lv_at hl 0 rfl) ?_
        refine lv_aload_n hx hb dX10_isHere_21 rfl (lv_at hl 2 rfl) ?_
        refine hw_cR (va_runV (As := []) (rest := [.int y2_8]) ⟨hx, hb, hml, hown, hts⟩ (k_J0_length_8abf5 l D G _ i hi) (cwV 0 hts gX10_isHere_J0_length_8abf5 rfl rfl rfl (by decide +kernel) ⟨Nat.le_of_ble_eq_true rfl, Nat.le_of_ble_eq_true rfl⟩) (hw_pV (vk_recv (A := (hw_AW G [] s.heap.size)) (i := i) (hST.2.2.2.2.2.2.1.narrow (fun q h9 => hw_NGsub (by decide) q h9)) hi hS) hH hK hST hS (by decide) (fun _ h => Or.inl h) trivial) rfl rfl hl.1 rfl (lv_room (Nat.le_of_ble_eq_true rfl)) dX10_isHere_22 ⟨Nat.le_of_ble_eq_true rfl, Nat.le_of_ble_eq_true rfl⟩) (fun v hp => ?_)
        obtain ⟨x11, rfl, q12⟩ := hp
        refine lv_icmp_ge (tgt := 54) hx hb dX10_isHere_25 (by decide) (fun c13 => ?_) (fun c13 => ?_)
        · have b14 : x11.toInt ≤ y2_8.toInt := hw_ile c13
          refine lv_iconst (v := 1) hx hb dX10_isHere_54 (by decide) ?_
          exact hw_iretM (v := 1) hx hb hr hlocks hQ hS rfl (Or.inr (⟨rfl, hH, va, (by first | rfl | trivial | assumption | omega | (intros; first | rfl | assumption | omega | (exfalso; omega)))⟩)) dX10_isHere_55
        · have b15 : y2_8.toInt < x11.toInt := hw_inle c13
          refine lv_aload_n hx hb dX10_isHere_28 rfl (lv_at hl 1 rfl) ?_
          refine lv_aload_n hx hb dX10_isHere_29 rfl (lv_at hl 1 rfl) ?_
          refine hw_get hx hb fg_61_9 hK va rfl dX10_isHere_30 ?_
          refine lv_iload_n hx hb dX10_isHere_33 rfl (lv_at hl 0 rfl) ?_
          refine lv_iadd hx hb dX10_isHere_34 ?_
          refine lv_topi (fun x16 e17 => ?_)
          have t18 : x16.toInt = st_a.toInt + y2_8.toInt := by rw [e17]; exact hw_add rfl rfl (by omega) (by omega)
          refine hw_cR (va_runV (As := [.int x16]) (rest := []) ⟨hx, hb, hml, hown, hts⟩ (k_X10_letterAt l D G h0 x16 _ G0) (cwV 1 hts gX10_isHere_X10_letterAt rfl rfl rfl (by decide +kernel) ⟨Nat.le_of_ble_eq_true rfl, Nat.le_of_ble_eq_true rfl⟩) (hw_pV (hw_rc (q := (RX10, TX10, 10)) hK va rfl) hH hK hST hS (by decide) (fun _ h => Or.inl h) trivial) rfl rfl hl.1 rfl (lv_room (Nat.le_of_ble_eq_true rfl)) dX10_isHere_35 ⟨Nat.le_of_ble_eq_true rfl, Nat.le_of_ble_eq_true rfl⟩) (fun v hp => ?_)
          obtain ⟨x19, rfl⟩ := hp
          refine lv_aload_n hx hb dX10_isHere_38 rfl (lv_at hl 2 rfl) ?_
          refine lv_iload_n hx hb dX10_isHere_39 rfl (lv_at hl 0 rfl) ?_
          refine hw_cM0 (va_runV (As := [.int y2_8]) (rest := [.int x19]) ⟨hx, hb, hml, hown, hts⟩ (k_J0_charAt_5068e l D G y2_8 _ i hi (by first | assumption | decide | omega)) (cwV 1 hts gX10_isHere_J0_charAt_5068e rfl rfl rfl (by decide +kernel) ⟨Nat.le_of_ble_eq_true rfl, Nat.le_of_ble_eq_true rfl⟩) (hw_pV (vk_recv (A := (hw_AW G [] s.heap.size)) (i := i) (hST.2.2.2.2.2.2.1.narrow (fun q h9 => hw_NGsub (by decide) q h9)) hi hS) hH hK hST hS (by decide) (fun _ h => Or.inl h) trivial) rfl rfl hl.1 rfl (lv_room (Nat.le_of_ble_eq_true rfl)) dX10_isHere_40 ⟨Nat.le_of_ble_eq_true rfl, Nat.le_of_ble_eq_true rfl⟩) hS (hw_AWsub (by decide) (fun _ _ => rfl) hS.1) (fun v H locs hp hz hk hS => ?_)
          obtain ⟨x20, rfl, hH, q21⟩ := hp
          have va := va_at.kept va (hk _ (hw_lt va) (hw_AWn G0 (by decide) (hw_lt va)))
          refine lv_icmp_eq (tgt := 48) hx hb dX10_isHere_43 (by decide) (fun c22 => ?_) (fun c22 => ?_)
          · have b23 : x19.toInt = x20.toInt := hw_ieq c22
            obtain ⟨x24, e25⟩ : ∃ y : Int32, y = y2_8 + 1 := ⟨_, rfl⟩
            refine lv_iinc (v := x24) (lv' := [(2, .int x24), (0, .ref h0), (1, .ref (D.2.2 (2 + i)))]) hx hb dX10_isHere_48 hl (k := 0) rfl (by rw [e25]; rfl) (by decide) rfl (fun ls hl => ?_)
            have t26 : x24.toInt = y2_8.toInt + 1 := by rw [e25]; exact hw_add rfl rfl (by omega) (by omega)
            refine lv_goto (tgt := 20) hx hb dX10_isHere_51 (by decide) ?_
            exact ih20 x24 (by first | omega | omega) ⟨by first | decide | omega, by first | decide | omega⟩ _ _ hH va hS _ (lv_sub hl [0, 1, 2] rfl)
          · have b27 : x19.toInt ≠ x20.toInt := hw_ine c22
            refine lv_iconst (v := 0) hx hb dX10_isHere_46 (by decide) ?_
            exact hw_iretM (v := 0) hx hb hr hlocks hQ hS rfl (Or.inl ⟨rfl, hH, va⟩) dX10_isHere_47
    exact L20 _ 0 (Nat.lt_succ_self _) ⟨by first | decide | omega, by first | decide | omega⟩ _ _ hH va hS _ (lv_sub hl [0, 1, 2] rfl)
  · have b28 : x1.toInt ≠ x4.toInt := hw_ine c6
    refine lv_iconst (v := 0) hx hb dX10_isHere_16 (by decide) ?_
    exact hw_iretM (v := 0) hx hb hr hlocks hQ hS rfl (Or.inl ⟨rfl, hH, va⟩) dX10_isHere_17

set_option maxHeartbeats 4000000 in
set_option maxRecDepth 100000 in
theorem k_X10_spelled (l : Launch) (D : hw_D) (G : Nat → Nat) (p1 : Int32) (sz : Nat) : Met l yX10_spelled wsX10_spelled ({ frames := 0, cells := 0, slots := 0, locals := 0 } : Room) (hw_PC D G [.int p1] sz (fun H => True)) (hw_QR (fun v => ∃ (r : Nat), v = .ref (D.2.2 (2 + r)) ∧ r < 8)) 0 0 (fun _ => False) := by
  refine hw_met (cc := cX10_spelled) (maxL := 1) (ret := (some (.object "java/lang/String"))) (plainFor_of_name (by decide)) rfl (Nat.le_of_ble_eq_true rfl) ?_
  intro p e s m args below meth c QQ ls hsz hx hb hml hr hts hown hlocks hnm hH hK hST hF hQ hl
  subst hsz
  have hS : va_S (hw_AW G [] s.heap.size) s.heap s.heap [] := va_S.rf
  have hl : lv_has ls 1 [(0, .int p1)] := hl
  refine lv_iload_n hx hb dX10_spelled_0 rfl (lv_at hl 0 rfl) ?_
  by_cases w1 : p1.toInt < 0 ∨ 6 < p1.toInt
  · refine lv_tableOut (tgt := 65) hx hb dX10_spelled_1 w1 (by decide) ?_
    refine va_ldcS hx hb hown (hST.2.2.2.2.2.2.2.1 7 (by decide)) dX10_spelled_65 ?_
    exact hw_aretR (v := .ref (D.2.2 (2 + 7))) hx hb hr (Or.inl ⟨_, rfl⟩) hlocks hQ (Or.inr ⟨_, rfl⟩) (⟨7, rfl, (by first | rfl | trivial | assumption | omega | (intros; first | rfl | assumption | omega | (exfalso; omega)))⟩) dX10_spelled_67
  · rcases (show p1.toInt = 0 ∨ p1.toInt = 1 ∨ p1.toInt = 2 ∨ p1.toInt = 3 ∨ p1.toInt = 4 ∨ p1.toInt = 5 ∨ p1.toInt = 6 by omega) with w1 | w1 | w1 | w1 | w1 | w1 | w1
    · refine lv_tableIn (tgt := 44) (off := 43) hx hb dX10_spelled_1 (by omega) (by omega) (by rw [w1]; rfl) (by decide) ?_
      refine va_ldcS hx hb hown (hST.2.2.2.2.2.2.2.1 0 (by decide)) dX10_spelled_44 ?_
      exact hw_aretR (v := .ref (D.2.2 (2 + 0))) hx hb hr (Or.inl ⟨_, rfl⟩) hlocks hQ (Or.inr ⟨_, rfl⟩) (⟨0, rfl, (by first | rfl | trivial | assumption | omega | (intros; first | rfl | assumption | omega | (exfalso; omega)))⟩) dX10_spelled_46
    · refine lv_tableIn (tgt := 47) (off := 46) hx hb dX10_spelled_1 (by omega) (by omega) (by rw [w1]; rfl) (by decide) ?_
      refine va_ldcS hx hb hown (hST.2.2.2.2.2.2.2.1 1 (by decide)) dX10_spelled_47 ?_
      exact hw_aretR (v := .ref (D.2.2 (2 + 1))) hx hb hr (Or.inl ⟨_, rfl⟩) hlocks hQ (Or.inr ⟨_, rfl⟩) (⟨1, rfl, (by first | rfl | trivial | assumption | omega | (intros; first | rfl | assumption | omega | (exfalso; omega)))⟩) dX10_spelled_49
    · refine lv_tableIn (tgt := 50) (off := 49) hx hb dX10_spelled_1 (by omega) (by omega) (by rw [w1]; rfl) (by decide) ?_
      refine va_ldcS hx hb hown (hST.2.2.2.2.2.2.2.1 2 (by decide)) dX10_spelled_50 ?_
      exact hw_aretR (v := .ref (D.2.2 (2 + 2))) hx hb hr (Or.inl ⟨_, rfl⟩) hlocks hQ (Or.inr ⟨_, rfl⟩) (⟨2, rfl, (by first | rfl | trivial | assumption | omega | (intros; first | rfl | assumption | omega | (exfalso; omega)))⟩) dX10_spelled_52
    · refine lv_tableIn (tgt := 53) (off := 52) hx hb dX10_spelled_1 (by omega) (by omega) (by rw [w1]; rfl) (by decide) ?_
      refine va_ldcS hx hb hown (hST.2.2.2.2.2.2.2.1 3 (by decide)) dX10_spelled_53 ?_
      exact hw_aretR (v := .ref (D.2.2 (2 + 3))) hx hb hr (Or.inl ⟨_, rfl⟩) hlocks hQ (Or.inr ⟨_, rfl⟩) (⟨3, rfl, (by first | rfl | trivial | assumption | omega | (intros; first | rfl | assumption | omega | (exfalso; omega)))⟩) dX10_spelled_55
    · refine lv_tableIn (tgt := 56) (off := 55) hx hb dX10_spelled_1 (by omega) (by omega) (by rw [w1]; rfl) (by decide) ?_
      refine va_ldcS hx hb hown (hST.2.2.2.2.2.2.2.1 4 (by decide)) dX10_spelled_56 ?_
      exact hw_aretR (v := .ref (D.2.2 (2 + 4))) hx hb hr (Or.inl ⟨_, rfl⟩) hlocks hQ (Or.inr ⟨_, rfl⟩) (⟨4, rfl, (by first | rfl | trivial | assumption | omega | (intros; first | rfl | assumption | omega | (exfalso; omega)))⟩) dX10_spelled_58
    · refine lv_tableIn (tgt := 59) (off := 58) hx hb dX10_spelled_1 (by omega) (by omega) (by rw [w1]; rfl) (by decide) ?_
      refine va_ldcS hx hb hown (hST.2.2.2.2.2.2.2.1 5 (by decide)) dX10_spelled_59 ?_
      exact hw_aretR (v := .ref (D.2.2 (2 + 5))) hx hb hr (Or.inl ⟨_, rfl⟩) hlocks hQ (Or.inr ⟨_, rfl⟩) (⟨5, rfl, (by first | rfl | trivial | assumption | omega | (intros; first | rfl | assumption | omega | (exfalso; omega)))⟩) dX10_spelled_61
    · refine lv_tableIn (tgt := 62) (off := 61) hx hb dX10_spelled_1 (by omega) (by omega) (by rw [w1]; rfl) (by decide) ?_
      refine va_ldcS hx hb hown (hST.2.2.2.2.2.2.2.1 6 (by decide)) dX10_spelled_62 ?_
      exact hw_aretR (v := .ref (D.2.2 (2 + 6))) hx hb hr (Or.inl ⟨_, rfl⟩) hlocks hQ (Or.inr ⟨_, rfl⟩) (⟨6, rfl, (by first | rfl | trivial | assumption | omega | (intros; first | rfl | assumption | omega | (exfalso; omega)))⟩) dX10_spelled_64

set_option maxHeartbeats 4000000 in
set_option maxRecDepth 100000 in
theorem k_X10_wordHere (l : Launch) (D : hw_D) (G : Nat → Nat) (h0 : Nat) (sz : Nat) (ra : Nat → Nat) (ln_a cl_a st_a en_a kf_a lf_a wf_a : Int32) (G0 : G h0 = 8) (Ra : hw_RT G ra) (gln_a : 0 ≤ ln_a.toInt ∧ ln_a.toInt ≤ 200) (gcl_a : 0 ≤ cl_a.toInt ∧ cl_a.toInt ≤ 20) (gst_a : 0 ≤ st_a.toInt ∧ st_a.toInt ≤ 200) (gen_a : 0 ≤ en_a.toInt ∧ en_a.toInt ≤ 200) : Met l yX10_wordHere wsX10_wordHere ({ frames := 5, cells := 0, slots := 0, locals := 107 } : Room) (hw_PC D G [.ref h0] sz (fun H => va_at D.1 vwCl (h0, .inr (9, hw_LT ra ln_a cl_a st_a en_a kf_a lf_a wf_a)) H)) (hw_QM (fun v H => (v = some (.int (-1)) ∧ hw_HT D G H ∧ va_at D.1 vwCl (h0, .inr (9, hw_LT ra ln_a cl_a st_a en_a kf_a lf_a wf_a)) H) ∨ (∃ (r : Int32), v = some (.int r) ∧ hw_HT D G H ∧ va_at D.1 vwCl (h0, .inr (9, hw_LT ra ln_a cl_a st_a en_a kf_a lf_a wf_a)) H ∧ (0 ≤ r.toInt ∧ r.toInt ≤ 7) ∧ 4 ≤ en_a.toInt - st_a.toInt)) (hw_AW G [] sz)) 0 0 (hw_AW G [] sz) := by
  refine hw_met (cc := cX10_wordHere) (maxL := 2) (ret := (some .int)) (plainFor_of_name (by decide)) rfl (Nat.le_of_ble_eq_true rfl) ?_
  intro p e s m args below meth c QQ ls hsz hx hb hml hr hts hown hlocks hnm hH hK hST hF hQ hl
  subst hsz
  have hS : va_S (hw_AW G [] s.heap.size) s.heap s.heap [] := va_S.rf
  have va := hF
  have hl : lv_has ls 2 [(0, .ref h0)] := hl
  refine lv_iconst (v := 0) hx hb dX10_wordHere_0 (by decide) ?_
  refine lv_istore_n (lv' := [(1, .int 0), (0, .ref h0)]) hx hb dX10_wordHere_1 rfl hl (by decide) rfl (fun ls hl => ?_)
  have L2 : ∀ (n3 : Nat) (y1_1 : Int32) (hm : (8 - y1_1.toInt).toNat < n3) (g2 : 0 ≤ y1_1.toInt ∧ y1_1.toInt ≤ 8) (H : Heap) (locs : List Loc) (hH : hw_HT D G H) (va : va_at D.1 vwCl (h0, .inr (9, hw_LT ra ln_a cl_a st_a en_a kf_a lf_a wf_a)) H) (hS : va_S (hw_AW G [] s.heap.size) s.heap H locs) (ls : Array Slot) (hl : lv_has ls 2 [(1, .int y1_1), (0, .ref h0)]), W p l e ({ frames := 5, cells := 0, slots := 0, locals := 107 } : Room) s m args below meth c H locs 0 0 QQ (F0 m 2 ls []) := by
    intro n3
    induction n3 with
    | zero => intro y1_1 hm; exact absurd hm (Nat.not_lt_zero _)
    | succ n3 ih2 =>
      intro y1_1 hm g2 H locs hH va hS ls hl
      refine lv_iload_n hx hb dX10_wordHere_2 rfl (lv_at hl 0 rfl) ?_
      refine lv_bipush (v := 8) hx hb dX10_wordHere_3 (by decide) ?_
      refine lv_icmp_ge (tgt := 27) hx hb dX10_wordHere_5 (by decide) (fun c4 => ?_) (fun c4 => ?_)
      · have b5 : 8 ≤ y1_1.toInt := hw_ile c4
        refine lv_iconst (v := (-1)) hx hb dX10_wordHere_27 (by decide) ?_
        exact hw_iretM (v := (-1)) hx hb hr hlocks hQ hS rfl (Or.inl ⟨rfl, hH, va⟩) dX10_wordHere_28
      · have b6 : y1_1.toInt < 8 := hw_inle c4
        refine lv_aload_n hx hb dX10_wordHere_8 rfl (lv_at hl 1 rfl) ?_
        refine lv_iload_n hx hb dX10_wordHere_9 rfl (lv_at hl 0 rfl) ?_
        refine hw_cR (va_runS (As := [.int y1_1]) (rest := [.ref h0]) ⟨hx, hb, hml, hown, hts⟩ (k_X10_spelled l D G y1_1 _) (va_cwS 1 hts gX10_wordHere_X10_spelled rfl rfl rfl (by decide +kernel) ⟨Nat.le_of_ble_eq_true rfl, Nat.le_of_ble_eq_true rfl⟩) (hw_pS hH hK hST hS (by decide) (fun _ h => Or.inl h) trivial) rfl rfl hl.1 rfl (lv_room (Nat.le_of_ble_eq_true rfl)) dX10_wordHere_10 ⟨Nat.le_of_ble_eq_true rfl, Nat.le_of_ble_eq_true rfl⟩) (fun v hp => ?_)
        obtain ⟨b7, rfl, q8⟩ := hp
        refine hw_cM0 (va_runV (As := [.ref (D.2.2 (2 + b7))]) (rest := []) ⟨hx, hb, hml, hown, hts⟩ (k_X10_isHere l D G h0 _ b7 ra ln_a cl_a st_a en_a kf_a lf_a wf_a G0 Ra ⟨by first | decide | omega, by first | decide | omega⟩ ⟨by first | decide | omega, by first | decide | omega⟩ ⟨by first | decide | omega, by first | decide | omega⟩ ⟨by first | decide | omega, by first | decide | omega⟩ q8) (cwV 1 hts gX10_wordHere_X10_isHere rfl rfl rfl (by decide +kernel) ⟨Nat.le_of_ble_eq_true rfl, Nat.le_of_ble_eq_true rfl⟩) (hw_pV (hw_rc (q := (RX10, TX10, 10)) hK va rfl) hH hK hST hS (by decide) (fun _ h => Or.inl h) va) rfl rfl hl.1 rfl (lv_room (Nat.le_of_ble_eq_true rfl)) dX10_wordHere_13 ⟨Nat.le_of_ble_eq_true rfl, Nat.le_of_ble_eq_true rfl⟩) hS (hw_AWsub (by decide) (fun _ _ => rfl) hS.1) (fun v H locs hp hz hk hS => ?_)
        rcases hp with ⟨rfl, hH, v9⟩ | ⟨rfl, hH, v10, q11⟩
        · refine lv_if_eq (tgt := 21) hx hb dX10_wordHere_16 (by decide) (fun c12 => ?_) (fun c12 => ?_)
          · obtain ⟨x13, e14⟩ : ∃ y : Int32, y = y1_1 + 1 := ⟨_, rfl⟩
            refine lv_iinc (v := x13) (lv' := [(1, .int x13), (0, .ref h0)]) hx hb dX10_wordHere_21 hl (k := 0) rfl (by rw [e14]; rfl) (by decide) rfl (fun ls hl => ?_)
            have t15 : x13.toInt = y1_1.toInt + 1 := by rw [e14]; exact hw_add rfl rfl (by omega) (by omega)
            refine lv_goto (tgt := 2) hx hb dX10_wordHere_24 (by decide) ?_
            exact ih2 x13 (by first | omega | omega) ⟨by first | decide | omega, by first | decide | omega⟩ _ _ hH v9 hS _ (lv_sub hl [0, 1] rfl)
          · exact absurd c12 (by decide)
        · refine lv_if_eq (tgt := 21) hx hb dX10_wordHere_16 (by decide) (fun c16 => ?_) (fun c16 => ?_)
          · exact absurd c16 (by decide)
          · refine lv_iload_n hx hb dX10_wordHere_19 rfl (lv_at hl 0 rfl) ?_
            exact hw_iretM (v := y1_1) hx hb hr hlocks hQ hS rfl (Or.inr (⟨y1_1, rfl, hH, v10, ⟨by first | decide | omega, by first | decide | omega⟩, (by first | rfl | trivial | assumption | omega | (intros; first | rfl | assumption | omega | (exfalso; omega)))⟩)) dX10_wordHere_20
  exact L2 _ 0 (Nat.lt_succ_self _) ⟨by first | decide | omega, by first | decide | omega⟩ _ _ hH va hS _ (lv_sub hl [0, 1] rfl)

set_option maxHeartbeats 4000000 in
set_option maxRecDepth 100000 in
theorem k_X10_numberHere (l : Launch) (D : hw_D) (G : Nat → Nat) (h0 : Nat) (sz : Nat) (G0 : G h0 = 8) : Met l yX10_numberHere wsX10_numberHere ({ frames := 1, cells := 0, slots := 0, locals := 21 } : Room) (hw_PC D G [.ref h0] sz (fun H => True)) (hw_QR (fun v => ∃ (r : Int32), v = .int r)) 0 0 (fun _ => False) := by
  refine hw_met (cc := cX10_numberHere) (maxL := 3) (ret := (some .int)) (plainFor_of_name (by decide)) rfl (Nat.le_of_ble_eq_true rfl) ?_
  intro p e s m args below meth c QQ ls hsz hx hb hml hr hts hown hlocks hnm hH hK hST hF hQ hl
  subst hsz
  have hS : va_S (hw_AW G [] s.heap.size) s.heap s.heap [] := va_S.rf
  have hl : lv_has ls 3 [(0, .ref h0)] := hl
  have u_9 : ∀ w ∈ u_ws RX10 TX10 10, w.before args s = true := fun w hw => hts w ((by decide +kernel : ∀ w ∈ u_ws RX10 TX10 10, w ∈ wsX10_numberHere) w hw)
  have fg_61_9 : hw_FG s args m 61 9 5 := ⟨RX10, "WardWalkers$Text", RX10, TX10, 10, u_9, hown, rfl, by decide, (hts (.fieldLink RX10 61 "WardWalkers$Text" "start" "I") (by decide +kernel)), (fun _ h9 => h9)⟩
  have fg_21_9 : hw_FG s args m 21 9 1 := ⟨RX10, "WardWalkers$Text", RX10, TX10, 10, u_9, hown, rfl, by decide, (hts (.fieldLink RX10 21 "WardWalkers$Text" "length" "I") (by decide +kernel)), (fun _ h9 => h9)⟩
  have fg_32_9 : hw_FG s args m 32 9 6 := ⟨RX10, "WardWalkers$Text", RX10, TX10, 10, u_9, hown, rfl, by decide, (hts (.fieldLink RX10 32 "WardWalkers$Text" "end" "I") (by decide +kernel)), (fun _ h9 => h9)⟩
  refine lv_aload_n hx hb dX10_numberHere_0 rfl (lv_at hl 0 rfl) ?_
  obtain ⟨r1, ln_2, cl_3, st_4, en_5, kf_6, lf_7, wf_8, v9, R10, g11, g12, g13, g14⟩ := hH.oT G0
  refine hw_get hx hb fg_61_9 hK v9 rfl dX10_numberHere_1 ?_
  refine lv_aload_n hx hb dX10_numberHere_4 rfl (lv_at hl 0 rfl) ?_
  refine hw_get hx hb fg_21_9 hK v9 rfl dX10_numberHere_5 ?_
  refine lv_icmp_ge (tgt := 39) hx hb dX10_numberHere_8 (by decide) (fun c15 => ?_) (fun c15 => ?_)
  · have b16 : ln_2.toInt ≤ st_4.toInt := hw_ile c15
    refine lv_iconst (v := (-1)) hx hb dX10_numberHere_39 (by decide) ?_
    exact hw_iretR (v := (-1)) hx hb hr hlocks hQ rfl (⟨(-1), rfl⟩) dX10_numberHere_40
  · have b17 : st_4.toInt < ln_2.toInt := hw_inle c15
    refine lv_aload_n hx hb dX10_numberHere_11 rfl (lv_at hl 0 rfl) ?_
    refine hw_get hx hb fg_32_9 hK v9 rfl dX10_numberHere_12 ?_
    refine lv_aload_n hx hb dX10_numberHere_15 rfl (lv_at hl 0 rfl) ?_
    refine hw_get hx hb fg_61_9 hK v9 rfl dX10_numberHere_16 ?_
    refine lv_isub hx hb dX10_numberHere_19 ?_
    refine lv_topi (fun x18 e19 => ?_)
    have t20 : x18.toInt = en_5.toInt - st_4.toInt := by rw [e19]; exact hw_sub rfl rfl (by omega) (by omega)
    refine lv_iconst (v := 3) hx hb dX10_numberHere_20 (by decide) ?_
    refine lv_icmp_gt (tgt := 39) hx hb dX10_numberHere_21 (by decide) (fun c21 => ?_) (fun c21 => ?_)
    · have b22 : 3 < x18.toInt := hw_ilt c21
      refine lv_iconst (v := (-1)) hx hb dX10_numberHere_39 (by decide) ?_
      exact hw_iretR (v := (-1)) hx hb hr hlocks hQ rfl (⟨(-1), rfl⟩) dX10_numberHere_40
    · have b23 : x18.toInt ≤ 3 := hw_inlt c21
      refine lv_aload_n hx hb dX10_numberHere_24 rfl (lv_at hl 0 rfl) ?_
      refine lv_aload_n hx hb dX10_numberHere_25 rfl (lv_at hl 0 rfl) ?_
      refine hw_get hx hb fg_61_9 hK v9 rfl dX10_numberHere_26 ?_
      refine hw_cR (va_runV (As := [.int st_4]) (rest := []) ⟨hx, hb, hml, hown, hts⟩ (k_X10_letterAt l D G h0 st_4 _ G0) (cwV 1 hts gX10_numberHere_X10_letterAt rfl rfl rfl (by decide +kernel) ⟨Nat.le_of_ble_eq_true rfl, Nat.le_of_ble_eq_true rfl⟩) (hw_pV (hw_rc (q := (RX10, TX10, 10)) hK v9 rfl) hH hK hST hS (by decide) (fun _ h => Or.inl h) trivial) rfl rfl hl.1 rfl (lv_room (Nat.le_of_ble_eq_true rfl)) dX10_numberHere_29 ⟨Nat.le_of_ble_eq_true rfl, Nat.le_of_ble_eq_true rfl⟩) (fun v hp => ?_)
      obtain ⟨x24, rfl⟩ := hp
      refine hw_cR (va_runS (As := [.int x24]) (rest := []) ⟨hx, hb, hml, hown, hts⟩ (k_X10_sortOf l D G x24 _) (va_cwS 1 hts gX10_numberHere_X10_sortOf rfl rfl rfl (by decide +kernel) ⟨Nat.le_of_ble_eq_true rfl, Nat.le_of_ble_eq_true rfl⟩) (hw_pS hH hK hST hS (by decide) (fun _ h => Or.inl h) trivial) rfl rfl hl.1 rfl (lv_room (Nat.le_of_ble_eq_true rfl)) dX10_numberHere_32 ⟨Nat.le_of_ble_eq_true rfl, Nat.le_of_ble_eq_true rfl⟩) (fun v hp => ?_)
      obtain ⟨x25, rfl⟩ := hp
      refine lv_iconst (v := 1) hx hb dX10_numberHere_35 (by decide) ?_
      refine lv_icmp_eq (tgt := 41) hx hb dX10_numberHere_36 (by decide) (fun c26 => ?_) (fun c26 => ?_)
      · have b27 : x25.toInt = 1 := hw_ieq c26
        refine lv_iconst (v := 0) hx hb dX10_numberHere_41 (by decide) ?_
        refine lv_istore_n (lv' := [(1, .int 0), (0, .ref h0)]) hx hb dX10_numberHere_42 rfl hl (by decide) rfl (fun ls hl => ?_)
        refine lv_aload_n hx hb dX10_numberHere_43 rfl (lv_at hl 1 rfl) ?_
        refine hw_get hx hb fg_61_9 hK v9 rfl dX10_numberHere_44 ?_
        refine lv_istore_n (lv' := [(2, .int st_4), (1, .int 0), (0, .ref h0)]) hx hb dX10_numberHere_47 rfl hl (by decide) rfl (fun ls hl => ?_)
        have L48 : ∀ (n31 : Nat) (y2_28 : Int32) (y1_29 : Int32) (hm : (200 - y2_28.toInt).toNat < n31) (g30 : 0 ≤ y2_28.toInt ∧ y2_28.toInt ≤ 200) (ls : Array Slot) (hl : lv_has ls 3 [(2, .int y2_28), (1, .int y1_29), (0, .ref h0)]), W p l e ({ frames := 1, cells := 0, slots := 0, locals := 21 } : Room) s m args below meth c s.heap [] 0 0 QQ (F0 m 48 ls []) := by
          intro n31
          induction n31 with
          | zero => intro y2_28 y1_29 hm; exact absurd hm (Nat.not_lt_zero _)
          | succ n31 ih48 =>
            intro y2_28 y1_29 hm g30 ls hl
            refine lv_iload_n hx hb dX10_numberHere_48 rfl (lv_at hl 0 rfl) ?_
            refine lv_aload_n hx hb dX10_numberHere_49 rfl (lv_at hl 2 rfl) ?_
            refine hw_get hx hb fg_32_9 hK v9 rfl dX10_numberHere_50 ?_
            refine lv_icmp_ge (tgt := 76) hx hb dX10_numberHere_53 (by decide) (fun c32 => ?_) (fun c32 => ?_)
            · have b33 : en_5.toInt ≤ y2_28.toInt := hw_ile c32
              refine lv_iload_n hx hb dX10_numberHere_76 rfl (lv_at hl 1 rfl) ?_
              exact hw_iretR (v := y1_29) hx hb hr hlocks hQ rfl (⟨y1_29, rfl⟩) dX10_numberHere_77
            · have b34 : y2_28.toInt < en_5.toInt := hw_inle c32
              refine lv_bipush (v := 10) hx hb dX10_numberHere_56 (by decide) ?_
              refine lv_iload_n hx hb dX10_numberHere_58 rfl (lv_at hl 1 rfl) ?_
              refine lv_imul hx hb dX10_numberHere_59 ?_
              refine lv_topi (fun x35 e36 => ?_)
              refine lv_aload_n hx hb dX10_numberHere_60 rfl (lv_at hl 2 rfl) ?_
              refine lv_iload_n hx hb dX10_numberHere_61 rfl (lv_at hl 0 rfl) ?_
              refine hw_cR (va_runV (As := [.int y2_28]) (rest := [.int x35]) ⟨hx, hb, hml, hown, hts⟩ (k_X10_letterAt l D G h0 y2_28 _ G0) (cwV 1 hts gX10_numberHere_X10_letterAt rfl rfl rfl (by decide +kernel) ⟨Nat.le_of_ble_eq_true rfl, Nat.le_of_ble_eq_true rfl⟩) (hw_pV (hw_rc (q := (RX10, TX10, 10)) hK v9 rfl) hH hK hST hS (by decide) (fun _ h => Or.inl h) trivial) rfl rfl hl.1 rfl (lv_room (Nat.le_of_ble_eq_true rfl)) dX10_numberHere_62 ⟨Nat.le_of_ble_eq_true rfl, Nat.le_of_ble_eq_true rfl⟩) (fun v hp => ?_)
              obtain ⟨x37, rfl⟩ := hp
              refine lv_iadd hx hb dX10_numberHere_65 ?_
              refine lv_topi (fun x38 e39 => ?_)
              refine lv_bipush (v := 48) hx hb dX10_numberHere_66 (by decide) ?_
              refine lv_isub hx hb dX10_numberHere_68 ?_
              refine lv_topi (fun x40 e41 => ?_)
              refine lv_istore_n (lv' := [(1, .int x40), (2, .int y2_28), (0, .ref h0)]) hx hb dX10_numberHere_69 rfl hl (by decide) rfl (fun ls hl => ?_)
              obtain ⟨x42, e43⟩ : ∃ y : Int32, y = y2_28 + 1 := ⟨_, rfl⟩
              refine lv_iinc (v := x42) (lv' := [(2, .int x42), (1, .int x40), (0, .ref h0)]) hx hb dX10_numberHere_70 hl (k := 1) rfl (by rw [e43]; rfl) (by decide) rfl (fun ls hl => ?_)
              have t44 : x42.toInt = y2_28.toInt + 1 := by rw [e43]; exact hw_add rfl rfl (by omega) (by omega)
              refine lv_goto (tgt := 48) hx hb dX10_numberHere_73 (by decide) ?_
              exact ih48 x42 x40 (by first | omega | omega) ⟨by first | decide | omega, by first | decide | omega⟩ _ (lv_sub hl [0, 1, 2] rfl)
        exact L48 _ st_4 0 (Nat.lt_succ_self _) ⟨by first | decide | omega, by first | decide | omega⟩ _ (lv_sub hl [0, 1, 2] rfl)
      · have b45 : x25.toInt ≠ 1 := hw_ine c26
        refine lv_iconst (v := (-1)) hx hb dX10_numberHere_39 (by decide) ?_
        exact hw_iretR (v := (-1)) hx hb hr hlocks hQ rfl (⟨(-1), rfl⟩) dX10_numberHere_40

set_option maxHeartbeats 4000000 in
set_option maxRecDepth 100000 in
theorem k_X10_takesPlace (l : Launch) (D : hw_D) (G : Nat → Nat) (h0 : Nat) (p1 : Int32) (sz : Nat) (ra : Nat → Nat) (ln_a cl_a st_a en_a kf_a lf_a wf_a : Int32) (G0 : G h0 = 8) (Ra : hw_RT G ra) (gln_a : 0 ≤ ln_a.toInt ∧ ln_a.toInt ≤ 200) (gcl_a : 0 ≤ cl_a.toInt ∧ cl_a.toInt ≤ 20) (gst_a : 0 ≤ st_a.toInt ∧ st_a.toInt ≤ 200) (gen_a : 0 ≤ en_a.toInt ∧ en_a.toInt ≤ 200) : Met l yX10_takesPlace wsX10_takesPlace ({ frames := 0, cells := 0, slots := 0, locals := 0 } : Room) (hw_PC D G [.ref h0, .int p1] sz (fun H => va_at D.1 vwCl (h0, .inr (9, hw_LT ra ln_a cl_a st_a en_a kf_a lf_a wf_a)) H)) (hw_QM (fun v H => (∃ (kf_a2 : Int32) (lf_a2 : Int32) (wf_a2 : Int32), v = some (.int 1) ∧ hw_HT D G H ∧ va_at D.1 vwCl (h0, .inr (9, hw_LT ra ln_a cl_a st_a en_a kf_a2 lf_a2 wf_a2)) H) ∨ (∃ (kf_a2 : Int32) (lf_a2 : Int32) (wf_a2 : Int32), v = some (.int 0) ∧ hw_HT D G H ∧ va_at D.1 vwCl (h0, .inr (9, hw_LT ra ln_a cl_a st_a en_a kf_a2 lf_a2 wf_a2)) H)) (hw_AW G [8] sz)) 0 0 (hw_AW G [8] sz) := by
  refine hw_met (cc := cX10_takesPlace) (maxL := 2) (ret := (some .boolean)) (plainFor_of_name (by decide)) rfl (Nat.le_of_ble_eq_true rfl) ?_
  intro p e s m args below meth c QQ ls hsz hx hb hml hr hts hown hlocks hnm hH hK hST hF hQ hl
  subst hsz
  have hS : va_S (hw_AW G [8] s.heap.size) s.heap s.heap [] := va_S.rf
  have va := hF
  have hl : lv_has ls 2 [(0, .ref h0), (1, .int p1)] := hl
  have u_9 : ∀ w ∈ u_ws RX10 TX10 10, w.before args s = true := fun w hw => hts w ((by decide +kernel : ∀ w ∈ u_ws RX10 TX10 10, w ∈ wsX10_takesPlace) w hw)
  have fg_40_9 : hw_FG s args m 40 9 7 := ⟨RX10, "WardWalkers$Text", RX10, TX10, 10, u_9, hown, rfl, by decide, (hts (.fieldLink RX10 40 "WardWalkers$Text" "keysFree" "I") (by decide +kernel)), (fun _ h9 => h9)⟩
  have fp_40_9 : hw_FP s args m 40 9 7 false .int := ⟨RX10, "WardWalkers$Text", RX10, TX10, 10, tyX10, u_9, hown, rfl, by decide, (hts (.fieldLink RX10 40 "WardWalkers$Text" "keysFree" "I") (by decide +kernel)), (fun _ h9 => h9), tyX10_ok, nmX10, rfl, (fun h => by cases h), by decide +kernel⟩
  have fp_46_9 : hw_FP s args m 46 9 8 false .int := ⟨RX10, "WardWalkers$Text", RX10, TX10, 10, tyX10, u_9, hown, rfl, by decide, (hts (.fieldLink RX10 46 "WardWalkers$Text" "locksFree" "I") (by decide +kernel)), (fun _ h9 => h9), tyX10_ok, nmX10, rfl, (fun h => by cases h), by decide +kernel⟩
  have fp_52_9 : hw_FP s args m 52 9 9 false .int := ⟨RX10, "WardWalkers$Text", RX10, TX10, 10, tyX10, u_9, hown, rfl, by decide, (hts (.fieldLink RX10 52 "WardWalkers$Text" "walkersFree" "I") (by decide +kernel)), (fun _ h9 => h9), tyX10_ok, nmX10, rfl, (fun h => by cases h), by decide +kernel⟩
  have fg_46_9 : hw_FG s args m 46 9 8 := ⟨RX10, "WardWalkers$Text", RX10, TX10, 10, u_9, hown, rfl, by decide, (hts (.fieldLink RX10 46 "WardWalkers$Text" "locksFree" "I") (by decide +kernel)), (fun _ h9 => h9)⟩
  have fg_52_9 : hw_FG s args m 52 9 9 := ⟨RX10, "WardWalkers$Text", RX10, TX10, 10, u_9, hown, rfl, by decide, (hts (.fieldLink RX10 52 "WardWalkers$Text" "walkersFree" "I") (by decide +kernel)), (fun _ h9 => h9)⟩
  refine lv_iload_n hx hb dX10_takesPlace_0 rfl (lv_at hl 1 rfl) ?_
  by_cases w1 : p1.toInt < 0 ∨ 7 < p1.toInt
  · refine lv_tableOut (tgt := 115) hx hb dX10_takesPlace_1 w1 (by decide) ?_
    refine lv_aload_n hx hb dX10_takesPlace_115 rfl (lv_at hl 0 rfl) ?_
    refine lv_dup hx hb dX10_takesPlace_116 rfl ?_
    refine hw_get hx hb fg_40_9 hK va rfl dX10_takesPlace_117 ?_
    refine lv_iconst (v := 1) hx hb dX10_takesPlace_120 (by decide) ?_
    refine lv_isub hx hb dX10_takesPlace_121 ?_
    refine lv_topi (fun x2 e3 => ?_)
    refine hw_put (v := .int x2) (fs' := hw_LT ra ln_a cl_a st_a en_a x2 lf_a wf_a) hx hb fp_40_9 hK hH va (Nat.le_of_ble_eq_true rfl) rfl rfl rfl (fun _ => by rw [G0]; exact ⟨ra, ln_a, cl_a, st_a, en_a, x2, lf_a, wf_a, rfl, Ra, ⟨by first | decide | omega, by first | decide | omega⟩, ⟨by first | decide | omega, by first | decide | omega⟩, ⟨by first | decide | omega, by first | decide | omega⟩, ⟨by first | decide | omega, by first | decide | omega⟩⟩) hS (hw_AWi G0 (by decide)) dX10_takesPlace_122 (fun H locs hH va oq hz hS => ?_)
    refine lv_aload_n hx hb dX10_takesPlace_125 rfl (lv_at hl 0 rfl) ?_
    refine hw_get hx hb fg_40_9 hK va rfl dX10_takesPlace_126 ?_
    refine lv_if_lt (tgt := 136) hx hb dX10_takesPlace_129 (by decide) (fun c4 => ?_) (fun c4 => ?_)
    · have b5 : x2.toInt < 0 := hw_ilt c4
      refine lv_iconst (v := 0) hx hb dX10_takesPlace_136 (by decide) ?_
      exact hw_iretM (v := 0) hx hb hr hlocks hQ hS rfl (Or.inr (⟨x2, lf_a, wf_a, rfl, hH, va⟩)) dX10_takesPlace_137
    · have b6 : 0 ≤ x2.toInt := hw_inlt c4
      refine lv_iconst (v := 1) hx hb dX10_takesPlace_132 (by decide) ?_
      refine lv_goto (tgt := 137) hx hb dX10_takesPlace_133 (by decide) ?_
      exact hw_iretM (v := 1) hx hb hr hlocks hQ hS rfl (Or.inl ⟨x2, lf_a, wf_a, rfl, hH, va⟩) dX10_takesPlace_137
  · rcases (show p1.toInt = 0 ∨ p1.toInt = 1 ∨ p1.toInt = 2 ∨ p1.toInt = 3 ∨ p1.toInt = 4 ∨ p1.toInt = 5 ∨ p1.toInt = 6 ∨ p1.toInt = 7 by omega) with w1 | w1 | w1 | w1 | w1 | w1 | w1 | w1
    · refine lv_tableIn (tgt := 48) (off := 47) hx hb dX10_takesPlace_1 (by omega) (by omega) (by rw [w1]; rfl) (by decide) ?_
      refine lv_aload_n hx hb dX10_takesPlace_48 rfl (lv_at hl 0 rfl) ?_
      refine lv_bipush (v := 7) hx hb dX10_takesPlace_49 (by decide) ?_
      refine hw_put (v := .int 7) (fs' := hw_LT ra ln_a cl_a st_a en_a 7 lf_a wf_a) hx hb fp_40_9 hK hH va (Nat.le_of_ble_eq_true rfl) rfl rfl rfl (fun _ => by rw [G0]; exact ⟨ra, ln_a, cl_a, st_a, en_a, 7, lf_a, wf_a, rfl, Ra, ⟨by first | decide | omega, by first | decide | omega⟩, ⟨by first | decide | omega, by first | decide | omega⟩, ⟨by first | decide | omega, by first | decide | omega⟩, ⟨by first | decide | omega, by first | decide | omega⟩⟩) hS (hw_AWi G0 (by decide)) dX10_takesPlace_51 (fun H locs hH va oq hz hS => ?_)
      refine lv_aload_n hx hb dX10_takesPlace_54 rfl (lv_at hl 0 rfl) ?_
      refine lv_bipush (v := 7) hx hb dX10_takesPlace_55 (by decide) ?_
      refine hw_put (v := .int 7) (fs' := hw_LT ra ln_a cl_a st_a en_a 7 7 wf_a) hx hb fp_46_9 hK hH va (Nat.le_of_ble_eq_true rfl) rfl rfl rfl (fun _ => by rw [G0]; exact ⟨ra, ln_a, cl_a, st_a, en_a, 7, 7, wf_a, rfl, Ra, ⟨by first | decide | omega, by first | decide | omega⟩, ⟨by first | decide | omega, by first | decide | omega⟩, ⟨by first | decide | omega, by first | decide | omega⟩, ⟨by first | decide | omega, by first | decide | omega⟩⟩) hS (hw_AWi G0 (by decide)) dX10_takesPlace_57 (fun H locs hH va oq hz hS => ?_)
      refine lv_aload_n hx hb dX10_takesPlace_60 rfl (lv_at hl 0 rfl) ?_
      refine lv_iconst (v := 3) hx hb dX10_takesPlace_61 (by decide) ?_
      refine hw_put (v := .int 3) (fs' := hw_LT ra ln_a cl_a st_a en_a 7 7 3) hx hb fp_52_9 hK hH va (Nat.le_of_ble_eq_true rfl) rfl rfl rfl (fun _ => by rw [G0]; exact ⟨ra, ln_a, cl_a, st_a, en_a, 7, 7, 3, rfl, Ra, ⟨by first | decide | omega, by first | decide | omega⟩, ⟨by first | decide | omega, by first | decide | omega⟩, ⟨by first | decide | omega, by first | decide | omega⟩, ⟨by first | decide | omega, by first | decide | omega⟩⟩) hS (hw_AWi G0 (by decide)) dX10_takesPlace_62 (fun H locs hH va oq hz hS => ?_)
      refine lv_iconst (v := 1) hx hb dX10_takesPlace_65 (by decide) ?_
      exact hw_iretM (v := 1) hx hb hr hlocks hQ hS rfl (Or.inl ⟨7, 7, 3, rfl, hH, va⟩) dX10_takesPlace_66
    · refine lv_tableIn (tgt := 115) (off := 114) hx hb dX10_takesPlace_1 (by omega) (by omega) (by rw [w1]; rfl) (by decide) ?_
      refine lv_aload_n hx hb dX10_takesPlace_115 rfl (lv_at hl 0 rfl) ?_
      refine lv_dup hx hb dX10_takesPlace_116 rfl ?_
      refine hw_get hx hb fg_40_9 hK va rfl dX10_takesPlace_117 ?_
      refine lv_iconst (v := 1) hx hb dX10_takesPlace_120 (by decide) ?_
      refine lv_isub hx hb dX10_takesPlace_121 ?_
      refine lv_topi (fun x7 e8 => ?_)
      refine hw_put (v := .int x7) (fs' := hw_LT ra ln_a cl_a st_a en_a x7 lf_a wf_a) hx hb fp_40_9 hK hH va (Nat.le_of_ble_eq_true rfl) rfl rfl rfl (fun _ => by rw [G0]; exact ⟨ra, ln_a, cl_a, st_a, en_a, x7, lf_a, wf_a, rfl, Ra, ⟨by first | decide | omega, by first | decide | omega⟩, ⟨by first | decide | omega, by first | decide | omega⟩, ⟨by first | decide | omega, by first | decide | omega⟩, ⟨by first | decide | omega, by first | decide | omega⟩⟩) hS (hw_AWi G0 (by decide)) dX10_takesPlace_122 (fun H locs hH va oq hz hS => ?_)
      refine lv_aload_n hx hb dX10_takesPlace_125 rfl (lv_at hl 0 rfl) ?_
      refine hw_get hx hb fg_40_9 hK va rfl dX10_takesPlace_126 ?_
      refine lv_if_lt (tgt := 136) hx hb dX10_takesPlace_129 (by decide) (fun c9 => ?_) (fun c9 => ?_)
      · have b10 : x7.toInt < 0 := hw_ilt c9
        refine lv_iconst (v := 0) hx hb dX10_takesPlace_136 (by decide) ?_
        exact hw_iretM (v := 0) hx hb hr hlocks hQ hS rfl (Or.inr (⟨x7, lf_a, wf_a, rfl, hH, va⟩)) dX10_takesPlace_137
      · have b11 : 0 ≤ x7.toInt := hw_inlt c9
        refine lv_iconst (v := 1) hx hb dX10_takesPlace_132 (by decide) ?_
        refine lv_goto (tgt := 137) hx hb dX10_takesPlace_133 (by decide) ?_
        exact hw_iretM (v := 1) hx hb hr hlocks hQ hS rfl (Or.inl ⟨x7, lf_a, wf_a, rfl, hH, va⟩) dX10_takesPlace_137
    · refine lv_tableIn (tgt := 115) (off := 114) hx hb dX10_takesPlace_1 (by omega) (by omega) (by rw [w1]; rfl) (by decide) ?_
      refine lv_aload_n hx hb dX10_takesPlace_115 rfl (lv_at hl 0 rfl) ?_
      refine lv_dup hx hb dX10_takesPlace_116 rfl ?_
      refine hw_get hx hb fg_40_9 hK va rfl dX10_takesPlace_117 ?_
      refine lv_iconst (v := 1) hx hb dX10_takesPlace_120 (by decide) ?_
      refine lv_isub hx hb dX10_takesPlace_121 ?_
      refine lv_topi (fun x12 e13 => ?_)
      refine hw_put (v := .int x12) (fs' := hw_LT ra ln_a cl_a st_a en_a x12 lf_a wf_a) hx hb fp_40_9 hK hH va (Nat.le_of_ble_eq_true rfl) rfl rfl rfl (fun _ => by rw [G0]; exact ⟨ra, ln_a, cl_a, st_a, en_a, x12, lf_a, wf_a, rfl, Ra, ⟨by first | decide | omega, by first | decide | omega⟩, ⟨by first | decide | omega, by first | decide | omega⟩, ⟨by first | decide | omega, by first | decide | omega⟩, ⟨by first | decide | omega, by first | decide | omega⟩⟩) hS (hw_AWi G0 (by decide)) dX10_takesPlace_122 (fun H locs hH va oq hz hS => ?_)
      refine lv_aload_n hx hb dX10_takesPlace_125 rfl (lv_at hl 0 rfl) ?_
      refine hw_get hx hb fg_40_9 hK va rfl dX10_takesPlace_126 ?_
      refine lv_if_lt (tgt := 136) hx hb dX10_takesPlace_129 (by decide) (fun c14 => ?_) (fun c14 => ?_)
      · have b15 : x12.toInt < 0 := hw_ilt c14
        refine lv_iconst (v := 0) hx hb dX10_takesPlace_136 (by decide) ?_
        exact hw_iretM (v := 0) hx hb hr hlocks hQ hS rfl (Or.inr (⟨x12, lf_a, wf_a, rfl, hH, va⟩)) dX10_takesPlace_137
      · have b16 : 0 ≤ x12.toInt := hw_inlt c14
        refine lv_iconst (v := 1) hx hb dX10_takesPlace_132 (by decide) ?_
        refine lv_goto (tgt := 137) hx hb dX10_takesPlace_133 (by decide) ?_
        exact hw_iretM (v := 1) hx hb hr hlocks hQ hS rfl (Or.inl ⟨x12, lf_a, wf_a, rfl, hH, va⟩) dX10_takesPlace_137
    · refine lv_tableIn (tgt := 115) (off := 114) hx hb dX10_takesPlace_1 (by omega) (by omega) (by rw [w1]; rfl) (by decide) ?_
      refine lv_aload_n hx hb dX10_takesPlace_115 rfl (lv_at hl 0 rfl) ?_
      refine lv_dup hx hb dX10_takesPlace_116 rfl ?_
      refine hw_get hx hb fg_40_9 hK va rfl dX10_takesPlace_117 ?_
      refine lv_iconst (v := 1) hx hb dX10_takesPlace_120 (by decide) ?_
      refine lv_isub hx hb dX10_takesPlace_121 ?_
      refine lv_topi (fun x17 e18 => ?_)
      refine hw_put (v := .int x17) (fs' := hw_LT ra ln_a cl_a st_a en_a x17 lf_a wf_a) hx hb fp_40_9 hK hH va (Nat.le_of_ble_eq_true rfl) rfl rfl rfl (fun _ => by rw [G0]; exact ⟨ra, ln_a, cl_a, st_a, en_a, x17, lf_a, wf_a, rfl, Ra, ⟨by first | decide | omega, by first | decide | omega⟩, ⟨by first | decide | omega, by first | decide | omega⟩, ⟨by first | decide | omega, by first | decide | omega⟩, ⟨by first | decide | omega, by first | decide | omega⟩⟩) hS (hw_AWi G0 (by decide)) dX10_takesPlace_122 (fun H locs hH va oq hz hS => ?_)
      refine lv_aload_n hx hb dX10_takesPlace_125 rfl (lv_at hl 0 rfl) ?_
      refine hw_get hx hb fg_40_9 hK va rfl dX10_takesPlace_126 ?_
      refine lv_if_lt (tgt := 136) hx hb dX10_takesPlace_129 (by decide) (fun c19 => ?_) (fun c19 => ?_)
      · have b20 : x17.toInt < 0 := hw_ilt c19
        refine lv_iconst (v := 0) hx hb dX10_takesPlace_136 (by decide) ?_
        exact hw_iretM (v := 0) hx hb hr hlocks hQ hS rfl (Or.inr (⟨x17, lf_a, wf_a, rfl, hH, va⟩)) dX10_takesPlace_137
      · have b21 : 0 ≤ x17.toInt := hw_inlt c19
        refine lv_iconst (v := 1) hx hb dX10_takesPlace_132 (by decide) ?_
        refine lv_goto (tgt := 137) hx hb dX10_takesPlace_133 (by decide) ?_
        exact hw_iretM (v := 1) hx hb hr hlocks hQ hS rfl (Or.inl ⟨x17, lf_a, wf_a, rfl, hH, va⟩) dX10_takesPlace_137
    · refine lv_tableIn (tgt := 115) (off := 114) hx hb dX10_takesPlace_1 (by omega) (by omega) (by rw [w1]; rfl) (by decide) ?_
      refine lv_aload_n hx hb dX10_takesPlace_115 rfl (lv_at hl 0 rfl) ?_
      refine lv_dup hx hb dX10_takesPlace_116 rfl ?_
      refine hw_get hx hb fg_40_9 hK va rfl dX10_takesPlace_117 ?_
      refine lv_iconst (v := 1) hx hb dX10_takesPlace_120 (by decide) ?_
      refine lv_isub hx hb dX10_takesPlace_121 ?_
      refine lv_topi (fun x22 e23 => ?_)
      refine hw_put (v := .int x22) (fs' := hw_LT ra ln_a cl_a st_a en_a x22 lf_a wf_a) hx hb fp_40_9 hK hH va (Nat.le_of_ble_eq_true rfl) rfl rfl rfl (fun _ => by rw [G0]; exact ⟨ra, ln_a, cl_a, st_a, en_a, x22, lf_a, wf_a, rfl, Ra, ⟨by first | decide | omega, by first | decide | omega⟩, ⟨by first | decide | omega, by first | decide | omega⟩, ⟨by first | decide | omega, by first | decide | omega⟩, ⟨by first | decide | omega, by first | decide | omega⟩⟩) hS (hw_AWi G0 (by decide)) dX10_takesPlace_122 (fun H locs hH va oq hz hS => ?_)
      refine lv_aload_n hx hb dX10_takesPlace_125 rfl (lv_at hl 0 rfl) ?_
      refine hw_get hx hb fg_40_9 hK va rfl dX10_takesPlace_126 ?_
      refine lv_if_lt (tgt := 136) hx hb dX10_takesPlace_129 (by decide) (fun c24 => ?_) (fun c24 => ?_)
      · have b25 : x22.toInt < 0 := hw_ilt c24
        refine lv_iconst (v := 0) hx hb dX10_takesPlace_136 (by decide) ?_
        exact hw_iretM (v := 0) hx hb hr hlocks hQ hS rfl (Or.inr (⟨x22, lf_a, wf_a, rfl, hH, va⟩)) dX10_takesPlace_137
      · have b26 : 0 ≤ x22.toInt := hw_inlt c24
        refine lv_iconst (v := 1) hx hb dX10_takesPlace_132 (by decide) ?_
        refine lv_goto (tgt := 137) hx hb dX10_takesPlace_133 (by decide) ?_
        exact hw_iretM (v := 1) hx hb hr hlocks hQ hS rfl (Or.inl ⟨x22, lf_a, wf_a, rfl, hH, va⟩) dX10_takesPlace_137
    · refine lv_tableIn (tgt := 67) (off := 66) hx hb dX10_takesPlace_1 (by omega) (by omega) (by rw [w1]; rfl) (by decide) ?_
      refine lv_aload_n hx hb dX10_takesPlace_67 rfl (lv_at hl 0 rfl) ?_
      refine lv_dup hx hb dX10_takesPlace_68 rfl ?_
      refine hw_get hx hb fg_46_9 hK va rfl dX10_takesPlace_69 ?_
      refine lv_iconst (v := 1) hx hb dX10_takesPlace_72 (by decide) ?_
      refine lv_isub hx hb dX10_takesPlace_73 ?_
      refine lv_topi (fun x27 e28 => ?_)
      refine hw_put (v := .int x27) (fs' := hw_LT ra ln_a cl_a st_a en_a kf_a x27 wf_a) hx hb fp_46_9 hK hH va (Nat.le_of_ble_eq_true rfl) rfl rfl rfl (fun _ => by rw [G0]; exact ⟨ra, ln_a, cl_a, st_a, en_a, kf_a, x27, wf_a, rfl, Ra, ⟨by first | decide | omega, by first | decide | omega⟩, ⟨by first | decide | omega, by first | decide | omega⟩, ⟨by first | decide | omega, by first | decide | omega⟩, ⟨by first | decide | omega, by first | decide | omega⟩⟩) hS (hw_AWi G0 (by decide)) dX10_takesPlace_74 (fun H locs hH va oq hz hS => ?_)
      refine lv_aload_n hx hb dX10_takesPlace_77 rfl (lv_at hl 0 rfl) ?_
      refine hw_get hx hb fg_46_9 hK va rfl dX10_takesPlace_78 ?_
      refine lv_if_lt (tgt := 88) hx hb dX10_takesPlace_81 (by decide) (fun c29 => ?_) (fun c29 => ?_)
      · have b30 : x27.toInt < 0 := hw_ilt c29
        refine lv_iconst (v := 0) hx hb dX10_takesPlace_88 (by decide) ?_
        exact hw_iretM (v := 0) hx hb hr hlocks hQ hS rfl (Or.inr (⟨kf_a, x27, wf_a, rfl, hH, va⟩)) dX10_takesPlace_89
      · have b31 : 0 ≤ x27.toInt := hw_inlt c29
        refine lv_iconst (v := 1) hx hb dX10_takesPlace_84 (by decide) ?_
        refine lv_goto (tgt := 89) hx hb dX10_takesPlace_85 (by decide) ?_
        exact hw_iretM (v := 1) hx hb hr hlocks hQ hS rfl (Or.inl ⟨kf_a, x27, wf_a, rfl, hH, va⟩) dX10_takesPlace_89
    · refine lv_tableIn (tgt := 90) (off := 89) hx hb dX10_takesPlace_1 (by omega) (by omega) (by rw [w1]; rfl) (by decide) ?_
      refine lv_aload_n hx hb dX10_takesPlace_90 rfl (lv_at hl 0 rfl) ?_
      refine lv_dup hx hb dX10_takesPlace_91 rfl ?_
      refine hw_get hx hb fg_52_9 hK va rfl dX10_takesPlace_92 ?_
      refine lv_iconst (v := 1) hx hb dX10_takesPlace_95 (by decide) ?_
      refine lv_isub hx hb dX10_takesPlace_96 ?_
      refine lv_topi (fun x32 e33 => ?_)
      refine hw_put (v := .int x32) (fs' := hw_LT ra ln_a cl_a st_a en_a kf_a lf_a x32) hx hb fp_52_9 hK hH va (Nat.le_of_ble_eq_true rfl) rfl rfl rfl (fun _ => by rw [G0]; exact ⟨ra, ln_a, cl_a, st_a, en_a, kf_a, lf_a, x32, rfl, Ra, ⟨by first | decide | omega, by first | decide | omega⟩, ⟨by first | decide | omega, by first | decide | omega⟩, ⟨by first | decide | omega, by first | decide | omega⟩, ⟨by first | decide | omega, by first | decide | omega⟩⟩) hS (hw_AWi G0 (by decide)) dX10_takesPlace_97 (fun H locs hH va oq hz hS => ?_)
      refine lv_aload_n hx hb dX10_takesPlace_100 rfl (lv_at hl 0 rfl) ?_
      refine hw_get hx hb fg_52_9 hK va rfl dX10_takesPlace_101 ?_
      refine lv_if_lt (tgt := 111) hx hb dX10_takesPlace_104 (by decide) (fun c34 => ?_) (fun c34 => ?_)
      · have b35 : x32.toInt < 0 := hw_ilt c34
        refine lv_iconst (v := 0) hx hb dX10_takesPlace_111 (by decide) ?_
        exact hw_iretM (v := 0) hx hb hr hlocks hQ hS rfl (Or.inr (⟨kf_a, lf_a, x32, rfl, hH, va⟩)) dX10_takesPlace_112
      · have b36 : 0 ≤ x32.toInt := hw_inlt c34
        refine lv_iconst (v := 1) hx hb dX10_takesPlace_107 (by decide) ?_
        refine lv_goto (tgt := 112) hx hb dX10_takesPlace_108 (by decide) ?_
        exact hw_iretM (v := 1) hx hb hr hlocks hQ hS rfl (Or.inl ⟨kf_a, lf_a, x32, rfl, hH, va⟩) dX10_takesPlace_112
    · refine lv_tableIn (tgt := 113) (off := 112) hx hb dX10_takesPlace_1 (by omega) (by omega) (by rw [w1]; rfl) (by decide) ?_
      refine lv_iconst (v := 1) hx hb dX10_takesPlace_113 (by decide) ?_
      exact hw_iretM (v := 1) hx hb hr hlocks hQ hS rfl (Or.inl ⟨kf_a, lf_a, wf_a, rfl, hH, va⟩) dX10_takesPlace_114

set_option maxHeartbeats 4000000 in
set_option maxRecDepth 100000 in
theorem k_X10_readClause (l : Launch) (D : hw_D) (G : Nat → Nat) (h0 : Nat) (sz : Nat) (ra : Nat → Nat) (ln_a cl_a st_a en_a kf_a lf_a wf_a : Int32) (G0 : G h0 = 8) (Ra : hw_RT G ra) (gln_a : 0 ≤ ln_a.toInt ∧ ln_a.toInt ≤ 200) (gcl_a : 0 ≤ cl_a.toInt ∧ cl_a.toInt ≤ 20) (gst_a : 0 ≤ st_a.toInt ∧ st_a.toInt ≤ 200) (gen_a : 0 ≤ en_a.toInt ∧ en_a.toInt ≤ 200) : Met l yX10_readClause wsX10_readClause ({ frames := 6, cells := 0, slots := 0, locals := 128 } : Room) (hw_PC D G [.ref h0] sz (fun H => va_at D.1 vwCl (h0, .inr (9, hw_LT ra ln_a cl_a st_a en_a kf_a lf_a wf_a)) H)) (hw_QM (fun v H => (∃ (cl_a2 : Int32) (st_a2 : Int32) (en_a2 : Int32) (kf_a2 : Int32) (lf_a2 : Int32) (wf_a2 : Int32), v = some (.int 0) ∧ hw_HT D G H ∧ va_at D.1 vwCl (h0, .inr (9, hw_LT ra ln_a cl_a2 st_a2 en_a2 kf_a2 lf_a2 wf_a2)) H ∧ (0 ≤ cl_a2.toInt ∧ cl_a2.toInt ≤ 20) ∧ (0 ≤ st_a2.toInt ∧ st_a2.toInt ≤ 200) ∧ (0 ≤ en_a2.toInt ∧ en_a2.toInt ≤ 200) ∧ (en_a.toInt - st_a.toInt < 4 → st_a2.toInt = st_a.toInt)) ∨ (∃ (cl_a2 : Int32) (st_a2 : Int32) (en_a2 : Int32) (kf_a2 : Int32) (lf_a2 : Int32) (wf_a2 : Int32), v = some (.int 1) ∧ hw_HT D G H ∧ va_at D.1 vwCl (h0, .inr (9, hw_LT ra ln_a cl_a2 st_a2 en_a2 kf_a2 lf_a2 wf_a2)) H ∧ (0 ≤ cl_a2.toInt ∧ cl_a2.toInt ≤ 20) ∧ (0 ≤ st_a2.toInt ∧ st_a2.toInt ≤ 200) ∧ (0 ≤ en_a2.toInt ∧ en_a2.toInt ≤ 200) ∧ 4 ≤ en_a.toInt - st_a.toInt)) (hw_AW G [8, 25, 26] sz)) 0 0 (hw_AW G [8, 25, 26] sz) := by
  refine hw_met (cc := cX10_readClause) (maxL := 5) (ret := (some .boolean)) (plainFor_of_name (by decide)) rfl (Nat.le_of_ble_eq_true rfl) ?_
  intro p e s m args below meth c QQ ls hsz hx hb hml hr hts hown hlocks hnm hH hK hST hF hQ hl
  subst hsz
  have hS : va_S (hw_AW G [8, 25, 26] s.heap.size) s.heap s.heap [] := va_S.rf
  have va := hF
  have hl : lv_has ls 5 [(0, .ref h0)] := hl
  have u_9 : ∀ w ∈ u_ws RX10 TX10 10, w.before args s = true := fun w hw => hts w ((by decide +kernel : ∀ w ∈ u_ws RX10 TX10 10, w ∈ wsX10_readClause) w hw)
  have fg_29_9 : hw_FG s args m 29 9 2 := ⟨RX10, "WardWalkers$Text", RX10, TX10, 10, u_9, hown, rfl, by decide, (hts (.fieldLink RX10 29 "WardWalkers$Text" "clauses" "I") (by decide +kernel)), (fun _ h9 => h9)⟩
  have fg_15_9 : hw_FG s args m 15 9 3 := ⟨RX10, "WardWalkers$Text", RX10, TX10, 10, u_9, hown, rfl, by decide, (hts (.fieldLink RX10 15 "WardWalkers$Text" "words" "[I") (by decide +kernel)), (fun _ h9 => h9)⟩
  have fp_29_9 : hw_FP s args m 29 9 2 false .int := ⟨RX10, "WardWalkers$Text", RX10, TX10, 10, tyX10, u_9, hown, rfl, by decide, (hts (.fieldLink RX10 29 "WardWalkers$Text" "clauses" "I") (by decide +kernel)), (fun _ h9 => h9), tyX10_ok, nmX10, rfl, (fun h => by cases h), by decide +kernel⟩
  have fg_18_9 : hw_FG s args m 18 9 4 := ⟨RX10, "WardWalkers$Text", RX10, TX10, 10, u_9, hown, rfl, by decide, (hts (.fieldLink RX10 18 "WardWalkers$Text" "numbers" "[I") (by decide +kernel)), (fun _ h9 => h9)⟩
  refine lv_aload_n hx hb dX10_readClause_0 rfl (lv_at hl 0 rfl) ?_
  refine hw_cM0 (va_runV (As := []) (rest := []) ⟨hx, hb, hml, hown, hts⟩ (k_X10_wordHere l D G h0 _ ra ln_a cl_a st_a en_a kf_a lf_a wf_a G0 Ra ⟨by first | decide | omega, by first | decide | omega⟩ ⟨by first | decide | omega, by first | decide | omega⟩ ⟨by first | decide | omega, by first | decide | omega⟩ ⟨by first | decide | omega, by first | decide | omega⟩) (cwV 0 hts gX10_readClause_X10_wordHere rfl rfl rfl (by decide +kernel) ⟨Nat.le_of_ble_eq_true rfl, Nat.le_of_ble_eq_true rfl⟩) (hw_pV (hw_rc (q := (RX10, TX10, 10)) hK va rfl) hH hK hST hS (by decide) (fun _ h => Or.inl h) va) rfl rfl hl.1 rfl (lv_room (Nat.le_of_ble_eq_true rfl)) dX10_readClause_1 ⟨Nat.le_of_ble_eq_true rfl, Nat.le_of_ble_eq_true rfl⟩) hS (hw_AWsub (by decide) (fun _ _ => rfl) hS.1) (fun v H locs hp hz hk hS => ?_)
  rcases hp with ⟨rfl, hH, v1⟩ | ⟨x2, rfl, hH, v3, g4, q5⟩
  · refine lv_istore_n (lv' := [(1, .int (-1)), (0, .ref h0)]) hx hb dX10_readClause_4 rfl hl (by decide) rfl (fun ls hl => ?_)
    refine lv_iload_n hx hb dX10_readClause_5 rfl (lv_at hl 0 rfl) ?_
    refine lv_iconst (v := (-1)) hx hb dX10_readClause_6 (by decide) ?_
    refine lv_icmp_eq (tgt := 27) hx hb dX10_readClause_7 (by decide) (fun c6 => ?_) (fun c6 => ?_)
    · refine lv_iconst (v := 0) hx hb dX10_readClause_27 (by decide) ?_
      exact hw_iretM (v := 0) hx hb hr hlocks hQ hS rfl (Or.inl ⟨cl_a, st_a, en_a, kf_a, lf_a, wf_a, rfl, hH, v1, ⟨by first | decide | omega, by first | decide | omega⟩, ⟨by first | decide | omega, by first | decide | omega⟩, ⟨by first | decide | omega, by first | decide | omega⟩, (by first | rfl | trivial | assumption | omega | (intros; first | rfl | assumption | omega | (exfalso; omega)))⟩) dX10_readClause_28
    · exact absurd c6 (by decide)
  · refine lv_istore_n (lv' := [(1, .int x2), (0, .ref h0)]) hx hb dX10_readClause_4 rfl hl (by decide) rfl (fun ls hl => ?_)
    refine lv_iload_n hx hb dX10_readClause_5 rfl (lv_at hl 0 rfl) ?_
    refine lv_iconst (v := (-1)) hx hb dX10_readClause_6 (by decide) ?_
    refine lv_icmp_eq (tgt := 27) hx hb dX10_readClause_7 (by decide) (fun c7 => ?_) (fun c7 => ?_)
    · have b8 : x2.toInt = (-1) := hw_ieq c7
      exfalso; omega
    · have b9 : x2.toInt ≠ (-1) := hw_ine c7
      refine lv_aload_n hx hb dX10_readClause_10 rfl (lv_at hl 1 rfl) ?_
      refine hw_get hx hb fg_29_9 hK v3 rfl dX10_readClause_11 ?_
      refine lv_bipush (v := 20) hx hb dX10_readClause_14 (by decide) ?_
      refine lv_icmp_ge (tgt := 27) hx hb dX10_readClause_16 (by decide) (fun c10 => ?_) (fun c10 => ?_)
      · have b11 : 20 ≤ cl_a.toInt := hw_ile c10
        refine lv_iconst (v := 0) hx hb dX10_readClause_27 (by decide) ?_
        exact hw_iretM (v := 0) hx hb hr hlocks hQ hS rfl (Or.inl ⟨cl_a, st_a, en_a, kf_a, lf_a, wf_a, rfl, hH, v3, ⟨by first | decide | omega, by first | decide | omega⟩, ⟨by first | decide | omega, by first | decide | omega⟩, ⟨by first | decide | omega, by first | decide | omega⟩, (by first | rfl | trivial | assumption | omega | (intros; first | rfl | assumption | omega | (exfalso; omega)))⟩) dX10_readClause_28
      · have b12 : cl_a.toInt < 20 := hw_inle c10
        refine lv_aload_n hx hb dX10_readClause_19 rfl (lv_at hl 1 rfl) ?_
        refine lv_iload_n hx hb dX10_readClause_20 rfl (lv_at hl 0 rfl) ?_
        refine hw_cM0 (va_runV (As := [.int x2]) (rest := []) ⟨hx, hb, hml, hown, hts⟩ (k_X10_takesPlace l D G h0 x2 _ ra ln_a cl_a st_a en_a kf_a lf_a wf_a G0 Ra ⟨by first | decide | omega, by first | decide | omega⟩ ⟨by first | decide | omega, by first | decide | omega⟩ ⟨by first | decide | omega, by first | decide | omega⟩ ⟨by first | decide | omega, by first | decide | omega⟩) (cwV 1 hts gX10_readClause_X10_takesPlace rfl rfl rfl (by decide +kernel) ⟨Nat.le_of_ble_eq_true rfl, Nat.le_of_ble_eq_true rfl⟩) (hw_pV (hw_rc (q := (RX10, TX10, 10)) hK v3 rfl) hH hK hST hS (by decide) (fun _ h => Or.inl h) v3) rfl rfl hl.1 rfl (lv_room (Nat.le_of_ble_eq_true rfl)) dX10_readClause_21 ⟨Nat.le_of_ble_eq_true rfl, Nat.le_of_ble_eq_true rfl⟩) hS (hw_AWsub (by decide) (fun _ _ => rfl) hS.1) (fun v H locs hp hz hk hS => ?_)
        rcases hp with ⟨x13, x14, x15, rfl, hH, v16⟩ | ⟨x17, x18, x19, rfl, hH, v20⟩
        · refine lv_if_ne (tgt := 29) hx hb dX10_readClause_24 (by decide) (fun c21 => ?_) (fun c21 => ?_)
          · refine lv_aload_n hx hb dX10_readClause_29 rfl (lv_at hl 1 rfl) ?_
            refine hw_get hx hb fg_15_9 hK v16 rfl dX10_readClause_30 ?_
            refine lv_aload_n hx hb dX10_readClause_33 rfl (lv_at hl 1 rfl) ?_
            refine hw_get hx hb fg_29_9 hK v16 rfl dX10_readClause_34 ?_
            refine lv_iload_n hx hb dX10_readClause_37 rfl (lv_at hl 0 rfl) ?_
            obtain ⟨f22, v23⟩ := hH.a25 (hw_RT_3 Ra)
            refine hw_iast hx hb hK hH v23 (hw_in (by omega) (by omega)) (fun _ => by rw [(hw_RT_3 Ra)]; exact ⟨_, rfl⟩) hS (hw_AWi (hw_RT_3 Ra) (by decide)) dX10_readClause_38 (fun H locs hH v23 oq hz hS => ?_)
            have v16 := va_at.kept v16 (oq _ (hw_ne G0 (hw_RT_3 Ra) (by decide)))
            refine lv_iconst (v := 0) hx hb dX10_readClause_39 (by decide) ?_
            refine lv_istore_n (lv' := [(2, .int 0), (1, .int x2), (0, .ref h0)]) hx hb dX10_readClause_40 rfl hl (by decide) rfl (fun ls hl => ?_)
            have L41 : ∀ (n31 : Nat) (y2_25 : Int32) (st_26 : Int32) (en_27 : Int32) (hm : (4 - y2_25.toInt).toNat < n31) (g28 : 0 ≤ y2_25.toInt ∧ y2_25.toInt ≤ 4) (g29 : 0 ≤ st_26.toInt ∧ st_26.toInt ≤ 200) (g30 : 0 ≤ en_27.toInt ∧ en_27.toInt ≤ 200) (H : Heap) (locs : List Loc) (hH : hw_HT D G H) (v16 : va_at D.1 vwCl (h0, .inr (9, hw_LT ra ln_a cl_a st_26 en_27 x13 x14 x15)) H) (hS : va_S (hw_AW G [8, 25, 26] s.heap.size) s.heap H locs) (ls : Array Slot) (hl : lv_has ls 5 [(2, .int y2_25), (1, .int x2), (0, .ref h0)]), W p l e ({ frames := 6, cells := 0, slots := 0, locals := 128 } : Room) s m args below meth c H locs 0 0 QQ (F0 m 41 ls []) := by
              intro n31
              induction n31 with
              | zero => intro y2_25 st_26 en_27 hm; exact absurd hm (Nat.not_lt_zero _)
              | succ n31 ih41 =>
                intro y2_25 st_26 en_27 hm g28 g29 g30 H locs hH v16 hS ls hl
                refine lv_iload_n hx hb dX10_readClause_41 rfl (lv_at hl 0 rfl) ?_
                refine lv_iconst (v := 4) hx hb dX10_readClause_42 (by decide) ?_
                refine lv_icmp_ge (tgt := 120) hx hb dX10_readClause_43 (by decide) (fun c32 => ?_) (fun c32 => ?_)
                · have b33 : 4 ≤ y2_25.toInt := hw_ile c32
                  refine lv_aload_n hx hb dX10_readClause_120 rfl (lv_at hl 2 rfl) ?_
                  refine lv_dup hx hb dX10_readClause_121 rfl ?_
                  refine hw_get hx hb fg_29_9 hK v16 rfl dX10_readClause_122 ?_
                  refine lv_iconst (v := 1) hx hb dX10_readClause_125 (by decide) ?_
                  refine lv_iadd hx hb dX10_readClause_126 ?_
                  refine lv_topi (fun x34 e35 => ?_)
                  have t36 : x34.toInt = cl_a.toInt + 1 := by rw [e35]; exact hw_add rfl rfl (by omega) (by omega)
                  refine hw_put (v := .int x34) (fs' := hw_LT ra ln_a x34 st_26 en_27 x13 x14 x15) hx hb fp_29_9 hK hH v16 (Nat.le_of_ble_eq_true rfl) rfl rfl rfl (fun _ => by rw [G0]; exact ⟨ra, ln_a, x34, st_26, en_27, x13, x14, x15, rfl, Ra, ⟨by first | decide | omega, by first | decide | omega⟩, ⟨by first | decide | omega, by first | decide | omega⟩, ⟨by first | decide | omega, by first | decide | omega⟩, ⟨by first | decide | omega, by first | decide | omega⟩⟩) hS (hw_AWi G0 (by decide)) dX10_readClause_127 (fun H locs hH v16 oq hz hS => ?_)
                  refine lv_iconst (v := 1) hx hb dX10_readClause_130 (by decide) ?_
                  exact hw_iretM (v := 1) hx hb hr hlocks hQ hS rfl (Or.inr (⟨x34, st_26, en_27, x13, x14, x15, rfl, hH, v16, ⟨by first | decide | omega, by first | decide | omega⟩, ⟨by first | decide | omega, by first | decide | omega⟩, ⟨by first | decide | omega, by first | decide | omega⟩, (by first | rfl | trivial | assumption | omega | (intros; first | rfl | assumption | omega | (exfalso; omega)))⟩)) dX10_readClause_131
                · have b37 : y2_25.toInt < 4 := hw_inle c32
                  refine va_gets (A := (hw_AW G [8, 25, 26] s.heap.size)) hx hb (hST.1.narrow (fun q h9 => hw_NGsub (by decide) q h9)) hS hown (hts (.fieldLink RX10 76 "WardWalkers$Text" "HIGHEST" "[I") (by decide +kernel)) (fun _ h9 => h9) dX10_readClause_46 ?_
                  refine lv_iload_n hx hb dX10_readClause_49 rfl (lv_at hl 1 rfl) ?_
                  refine lv_iconst (v := 4) hx hb dX10_readClause_50 (by decide) ?_
                  refine lv_imul hx hb dX10_readClause_51 ?_
                  refine lv_topi (fun x38 e39 => ?_)
                  have t40 : x38.toInt = x2.toInt * 4 := by rw [e39]; exact hw_mul rfl rfl (by omega) (by omega)
                  refine lv_iload_n hx hb dX10_readClause_52 rfl (lv_at hl 0 rfl) ?_
                  refine lv_iadd hx hb dX10_readClause_53 ?_
                  refine lv_topi (fun x41 e42 => ?_)
                  have t43 : x41.toInt = x38.toInt + y2_25.toInt := by rw [e42]; exact hw_add rfl rfl (by omega) (by omega)
                  refine va_ti (A := (hw_AW G [8, 25, 26] s.heap.size)) hx hb (hST.2.1.narrow (fun q h9 => hw_NGsub (by decide) q h9)) hS (hw_in (by omega) (by omega)) rfl dX10_readClause_54 ?_
                  refine lv_topi (fun x44 e45 => ?_)
                  have t46 : (-1) ≤ x44.toInt ∧ x44.toInt ≤ 511 := by rw [e45]; exact hw_tH_rng _
                  refine lv_istore_n (lv' := [(3, .int x44), (2, .int y2_25), (1, .int x2), (0, .ref h0)]) hx hb dX10_readClause_55 rfl hl (by decide) rfl (fun ls hl => ?_)
                  refine lv_iconst (v := 0) hx hb dX10_readClause_56 (by decide) ?_
                  refine lv_istore (lv' := [(4, .int 0), (3, .int x44), (2, .int y2_25), (1, .int x2), (0, .ref h0)]) hx hb dX10_readClause_57 hl (by decide) rfl (fun ls hl => ?_)
                  refine lv_iload_n hx hb dX10_readClause_59 rfl (lv_at hl 1 rfl) ?_
                  refine lv_iconst (v := (-1)) hx hb dX10_readClause_60 (by decide) ?_
                  refine lv_icmp_eq (tgt := 99) hx hb dX10_readClause_61 (by decide) (fun c47 => ?_) (fun c47 => ?_)
                  · have b48 : x44.toInt = (-1) := hw_ieq c47
                    refine lv_aload_n hx hb dX10_readClause_99 rfl (lv_at hl 4 rfl) ?_
                    refine hw_get hx hb fg_18_9 hK v16 rfl dX10_readClause_100 ?_
                    refine lv_aload_n hx hb dX10_readClause_103 rfl (lv_at hl 4 rfl) ?_
                    refine hw_get hx hb fg_29_9 hK v16 rfl dX10_readClause_104 ?_
                    refine lv_iconst (v := 4) hx hb dX10_readClause_107 (by decide) ?_
                    refine lv_imul hx hb dX10_readClause_108 ?_
                    refine lv_topi (fun x49 e50 => ?_)
                    have t51 : x49.toInt = cl_a.toInt * 4 := by rw [e50]; exact hw_mul rfl rfl (by omega) (by omega)
                    refine lv_iload_n hx hb dX10_readClause_109 rfl (lv_at hl 2 rfl) ?_
                    refine lv_iadd hx hb dX10_readClause_110 ?_
                    refine lv_topi (fun x52 e53 => ?_)
                    have t54 : x52.toInt = x49.toInt + y2_25.toInt := by rw [e53]; exact hw_add rfl rfl (by omega) (by omega)
                    refine lv_iload hx hb dX10_readClause_111 (lv_at hl 0 rfl) ?_
                    obtain ⟨f55, v56⟩ := hH.a26 (hw_RT_4 Ra)
                    refine hw_iast hx hb hK hH v56 (hw_in (by omega) (by omega)) (fun _ => by rw [(hw_RT_4 Ra)]; exact ⟨_, rfl⟩) hS (hw_AWi (hw_RT_4 Ra) (by decide)) dX10_readClause_113 (fun H locs hH v56 oq hz hS => ?_)
                    have v16 := va_at.kept v16 (oq _ (hw_ne G0 (hw_RT_4 Ra) (by decide)))
                    obtain ⟨x58, e59⟩ : ∃ y : Int32, y = y2_25 + 1 := ⟨_, rfl⟩
                    refine lv_iinc (v := x58) (lv' := [(2, .int x58), (4, .int 0), (3, .int x44), (1, .int x2), (0, .ref h0)]) hx hb dX10_readClause_114 hl (k := 2) rfl (by rw [e59]; rfl) (by decide) rfl (fun ls hl => ?_)
                    have t60 : x58.toInt = y2_25.toInt + 1 := by rw [e59]; exact hw_add rfl rfl (by omega) (by omega)
                    refine lv_goto (tgt := 41) hx hb dX10_readClause_117 (by decide) ?_
                    exact ih41 x58 st_26 en_27 (by first | omega | omega) ⟨by first | decide | omega, by first | decide | omega⟩ ⟨by first | decide | omega, by first | decide | omega⟩ ⟨by first | decide | omega, by first | decide | omega⟩ _ _ hH v16 hS _ (lv_sub hl [0, 3, 4] rfl)
                  · have b61 : x44.toInt ≠ (-1) := hw_ine c47
                    refine lv_aload_n hx hb dX10_readClause_64 rfl (lv_at hl 4 rfl) ?_
                    refine hw_cM0 (va_runV (As := []) (rest := []) ⟨hx, hb, hml, hown, hts⟩ (k_X10_nextToken l D G h0 _ ra ln_a cl_a st_26 en_27 x13 x14 x15 G0 Ra ⟨by first | decide | omega, by first | decide | omega⟩ ⟨by first | decide | omega, by first | decide | omega⟩ ⟨by first | decide | omega, by first | decide | omega⟩ ⟨by first | decide | omega, by first | decide | omega⟩) (cwV 0 hts gX10_readClause_X10_nextToken rfl rfl rfl (by decide +kernel) ⟨Nat.le_of_ble_eq_true rfl, Nat.le_of_ble_eq_true rfl⟩) (hw_pV (hw_rc (q := (RX10, TX10, 10)) hK v16 rfl) hH hK hST hS (by decide) (fun _ h => Or.inl h) v16) rfl rfl hl.1 rfl (lv_room (Nat.le_of_ble_eq_true rfl)) dX10_readClause_65 ⟨Nat.le_of_ble_eq_true rfl, Nat.le_of_ble_eq_true rfl⟩) hS (hw_AWsub (by decide) (fun _ _ => rfl) hS.1) (fun v H locs hp hz hk hS => ?_)
                    obtain ⟨x62, x63, rfl, hH, v64, g65, g66, q67, q68, q69⟩ := hp
                    refine lv_aload_n hx hb dX10_readClause_68 rfl (lv_at hl 4 rfl) ?_
                    refine hw_cR (va_runV (As := []) (rest := []) ⟨hx, hb, hml, hown, hts⟩ (k_X10_numberHere l D G h0 _ G0) (cwV 0 hts gX10_readClause_X10_numberHere rfl rfl rfl (by decide +kernel) ⟨Nat.le_of_ble_eq_true rfl, Nat.le_of_ble_eq_true rfl⟩) (hw_pV (hw_rc (q := (RX10, TX10, 10)) hK v64 rfl) hH hK hST hS (by decide) (fun _ h => Or.inl h) trivial) rfl rfl hl.1 rfl (lv_room (Nat.le_of_ble_eq_true rfl)) dX10_readClause_69 ⟨Nat.le_of_ble_eq_true rfl, Nat.le_of_ble_eq_true rfl⟩) (fun v hp => ?_)
                    obtain ⟨x70, rfl⟩ := hp
                    refine lv_istore (lv' := [(4, .int x70), (3, .int x44), (2, .int y2_25), (1, .int x2), (0, .ref h0)]) hx hb dX10_readClause_72 hl (by decide) rfl (fun ls hl => ?_)
                    refine lv_iload hx hb dX10_readClause_74 (lv_at hl 0 rfl) ?_
                    refine lv_iload_n hx hb dX10_readClause_76 rfl (lv_at hl 3 rfl) ?_
                    refine lv_bipush (v := 7) hx hb dX10_readClause_77 (by decide) ?_
                    refine lv_icmp_ne (tgt := 87) hx hb dX10_readClause_79 (by decide) (fun c71 => ?_) (fun c71 => ?_)
                    · have b72 : x2.toInt ≠ 7 := hw_ine c71
                      refine lv_iconst (v := 0) hx hb dX10_readClause_87 (by decide) ?_
                      refine lv_icmp_lt (tgt := 97) hx hb dX10_readClause_88 (by decide) (fun c73 => ?_) (fun c73 => ?_)
                      · have b74 : x70.toInt < 0 := hw_ilt c73
                        refine lv_iconst (v := 0) hx hb dX10_readClause_97 (by decide) ?_
                        exact hw_iretM (v := 0) hx hb hr hlocks hQ hS rfl (Or.inl ⟨cl_a, x62, x63, x13, x14, x15, rfl, hH, v64, ⟨by first | decide | omega, by first | decide | omega⟩, ⟨by first | decide | omega, by first | decide | omega⟩, ⟨by first | decide | omega, by first | decide | omega⟩, (by first | rfl | trivial | assumption | omega | (intros; first | rfl | assumption | omega | (exfalso; omega)))⟩) dX10_readClause_98
                      · have b75 : 0 ≤ x70.toInt := hw_inlt c73
                        refine lv_iload hx hb dX10_readClause_91 (lv_at hl 0 rfl) ?_
                        refine lv_iload_n hx hb dX10_readClause_93 rfl (lv_at hl 1 rfl) ?_
                        refine lv_icmp_le (tgt := 99) hx hb dX10_readClause_94 (by decide) (fun c76 => ?_) (fun c76 => ?_)
                        · have b77 : x70.toInt ≤ x44.toInt := hw_ile c76
                          refine lv_aload_n hx hb dX10_readClause_99 rfl (lv_at hl 4 rfl) ?_
                          refine hw_get hx hb fg_18_9 hK v64 rfl dX10_readClause_100 ?_
                          refine lv_aload_n hx hb dX10_readClause_103 rfl (lv_at hl 4 rfl) ?_
                          refine hw_get hx hb fg_29_9 hK v64 rfl dX10_readClause_104 ?_
                          refine lv_iconst (v := 4) hx hb dX10_readClause_107 (by decide) ?_
                          refine lv_imul hx hb dX10_readClause_108 ?_
                          refine lv_topi (fun x78 e79 => ?_)
                          have t80 : x78.toInt = cl_a.toInt * 4 := by rw [e79]; exact hw_mul rfl rfl (by omega) (by omega)
                          refine lv_iload_n hx hb dX10_readClause_109 rfl (lv_at hl 2 rfl) ?_
                          refine lv_iadd hx hb dX10_readClause_110 ?_
                          refine lv_topi (fun x81 e82 => ?_)
                          have t83 : x81.toInt = x78.toInt + y2_25.toInt := by rw [e82]; exact hw_add rfl rfl (by omega) (by omega)
                          refine lv_iload hx hb dX10_readClause_111 (lv_at hl 0 rfl) ?_
                          obtain ⟨f84, v85⟩ := hH.a26 (hw_RT_4 Ra)
                          refine hw_iast hx hb hK hH v85 (hw_in (by omega) (by omega)) (fun _ => by rw [(hw_RT_4 Ra)]; exact ⟨_, rfl⟩) hS (hw_AWi (hw_RT_4 Ra) (by decide)) dX10_readClause_113 (fun H locs hH v85 oq hz hS => ?_)
                          have v64 := va_at.kept v64 (oq _ (hw_ne G0 (hw_RT_4 Ra) (by decide)))
                          obtain ⟨x87, e88⟩ : ∃ y : Int32, y = y2_25 + 1 := ⟨_, rfl⟩
                          refine lv_iinc (v := x87) (lv' := [(2, .int x87), (4, .int x70), (3, .int x44), (1, .int x2), (0, .ref h0)]) hx hb dX10_readClause_114 hl (k := 2) rfl (by rw [e88]; rfl) (by decide) rfl (fun ls hl => ?_)
                          have t89 : x87.toInt = y2_25.toInt + 1 := by rw [e88]; exact hw_add rfl rfl (by omega) (by omega)
                          refine lv_goto (tgt := 41) hx hb dX10_readClause_117 (by decide) ?_
                          exact ih41 x87 x62 x63 (by first | omega | omega) ⟨by first | decide | omega, by first | decide | omega⟩ ⟨by first | decide | omega, by first | decide | omega⟩ ⟨by first | decide | omega, by first | decide | omega⟩ _ _ hH v64 hS _ (lv_sub hl [0, 3, 4] rfl)
                        · have b90 : x44.toInt < x70.toInt := hw_inle c76
                          refine lv_iconst (v := 0) hx hb dX10_readClause_97 (by decide) ?_
                          exact hw_iretM (v := 0) hx hb hr hlocks hQ hS rfl (Or.inl ⟨cl_a, x62, x63, x13, x14, x15, rfl, hH, v64, ⟨by first | decide | omega, by first | decide | omega⟩, ⟨by first | decide | omega, by first | decide | omega⟩, ⟨by first | decide | omega, by first | decide | omega⟩, (by first | rfl | trivial | assumption | omega | (intros; first | rfl | assumption | omega | (exfalso; omega)))⟩) dX10_readClause_98
                    · have b91 : x2.toInt = 7 := hw_ieq c71
                      refine lv_bipush (v := 10) hx hb dX10_readClause_82 (by decide) ?_
                      refine lv_goto (tgt := 88) hx hb dX10_readClause_84 (by decide) ?_
                      refine lv_icmp_lt (tgt := 97) hx hb dX10_readClause_88 (by decide) (fun c92 => ?_) (fun c92 => ?_)
                      · have b93 : x70.toInt < 10 := hw_ilt c92
                        refine lv_iconst (v := 0) hx hb dX10_readClause_97 (by decide) ?_
                        exact hw_iretM (v := 0) hx hb hr hlocks hQ hS rfl (Or.inl ⟨cl_a, x62, x63, x13, x14, x15, rfl, hH, v64, ⟨by first | decide | omega, by first | decide | omega⟩, ⟨by first | decide | omega, by first | decide | omega⟩, ⟨by first | decide | omega, by first | decide | omega⟩, (by first | rfl | trivial | assumption | omega | (intros; first | rfl | assumption | omega | (exfalso; omega)))⟩) dX10_readClause_98
                      · have b94 : 10 ≤ x70.toInt := hw_inlt c92
                        refine lv_iload hx hb dX10_readClause_91 (lv_at hl 0 rfl) ?_
                        refine lv_iload_n hx hb dX10_readClause_93 rfl (lv_at hl 1 rfl) ?_
                        refine lv_icmp_le (tgt := 99) hx hb dX10_readClause_94 (by decide) (fun c95 => ?_) (fun c95 => ?_)
                        · have b96 : x70.toInt ≤ x44.toInt := hw_ile c95
                          refine lv_aload_n hx hb dX10_readClause_99 rfl (lv_at hl 4 rfl) ?_
                          refine hw_get hx hb fg_18_9 hK v64 rfl dX10_readClause_100 ?_
                          refine lv_aload_n hx hb dX10_readClause_103 rfl (lv_at hl 4 rfl) ?_
                          refine hw_get hx hb fg_29_9 hK v64 rfl dX10_readClause_104 ?_
                          refine lv_iconst (v := 4) hx hb dX10_readClause_107 (by decide) ?_
                          refine lv_imul hx hb dX10_readClause_108 ?_
                          refine lv_topi (fun x97 e98 => ?_)
                          have t99 : x97.toInt = cl_a.toInt * 4 := by rw [e98]; exact hw_mul rfl rfl (by omega) (by omega)
                          refine lv_iload_n hx hb dX10_readClause_109 rfl (lv_at hl 2 rfl) ?_
                          refine lv_iadd hx hb dX10_readClause_110 ?_
                          refine lv_topi (fun x100 e101 => ?_)
                          have t102 : x100.toInt = x97.toInt + y2_25.toInt := by rw [e101]; exact hw_add rfl rfl (by omega) (by omega)
                          refine lv_iload hx hb dX10_readClause_111 (lv_at hl 0 rfl) ?_
                          obtain ⟨f103, v104⟩ := hH.a26 (hw_RT_4 Ra)
                          refine hw_iast hx hb hK hH v104 (hw_in (by omega) (by omega)) (fun _ => by rw [(hw_RT_4 Ra)]; exact ⟨_, rfl⟩) hS (hw_AWi (hw_RT_4 Ra) (by decide)) dX10_readClause_113 (fun H locs hH v104 oq hz hS => ?_)
                          have v64 := va_at.kept v64 (oq _ (hw_ne G0 (hw_RT_4 Ra) (by decide)))
                          obtain ⟨x106, e107⟩ : ∃ y : Int32, y = y2_25 + 1 := ⟨_, rfl⟩
                          refine lv_iinc (v := x106) (lv' := [(2, .int x106), (4, .int x70), (3, .int x44), (1, .int x2), (0, .ref h0)]) hx hb dX10_readClause_114 hl (k := 2) rfl (by rw [e107]; rfl) (by decide) rfl (fun ls hl => ?_)
                          have t108 : x106.toInt = y2_25.toInt + 1 := by rw [e107]; exact hw_add rfl rfl (by omega) (by omega)
                          refine lv_goto (tgt := 41) hx hb dX10_readClause_117 (by decide) ?_
                          exact ih41 x106 x62 x63 (by first | omega | omega) ⟨by first | decide | omega, by first | decide | omega⟩ ⟨by first | decide | omega, by first | decide | omega⟩ ⟨by first | decide | omega, by first | decide | omega⟩ _ _ hH v64 hS _ (lv_sub hl [0, 3, 4] rfl)
                        · have b109 : x44.toInt < x70.toInt := hw_inle c95
                          refine lv_iconst (v := 0) hx hb dX10_readClause_97 (by decide) ?_
                          exact hw_iretM (v := 0) hx hb hr hlocks hQ hS rfl (Or.inl ⟨cl_a, x62, x63, x13, x14, x15, rfl, hH, v64, ⟨by first | decide | omega, by first | decide | omega⟩, ⟨by first | decide | omega, by first | decide | omega⟩, ⟨by first | decide | omega, by first | decide | omega⟩, (by first | rfl | trivial | assumption | omega | (intros; first | rfl | assumption | omega | (exfalso; omega)))⟩) dX10_readClause_98
            exact L41 _ 0 st_a en_a (Nat.lt_succ_self _) ⟨by first | decide | omega, by first | decide | omega⟩ ⟨by first | decide | omega, by first | decide | omega⟩ ⟨by first | decide | omega, by first | decide | omega⟩ _ _ hH v16 hS _ (lv_sub hl [0, 1, 2] rfl)
          · exact absurd c21 (by decide)
        · refine lv_if_ne (tgt := 29) hx hb dX10_readClause_24 (by decide) (fun c110 => ?_) (fun c110 => ?_)
          · exact absurd c110 (by decide)
          · refine lv_iconst (v := 0) hx hb dX10_readClause_27 (by decide) ?_
            exact hw_iretM (v := 0) hx hb hr hlocks hQ hS rfl (Or.inl ⟨cl_a, st_a, en_a, x17, x18, x19, rfl, hH, v20, ⟨by first | decide | omega, by first | decide | omega⟩, ⟨by first | decide | omega, by first | decide | omega⟩, ⟨by first | decide | omega, by first | decide | omega⟩, (by first | rfl | trivial | assumption | omega | (intros; first | rfl | assumption | omega | (exfalso; omega)))⟩) dX10_readClause_28

set_option maxHeartbeats 4000000 in
set_option maxRecDepth 100000 in
theorem k_X10_readFor (l : Launch) (D : hw_D) (G : Nat → Nat) (h0 : Nat) (p1 : Nat) (sz : Nat) (ra : Nat → Nat) (ln_a cl_a st_a en_a kf_a lf_a wf_a : Int32) (G0 : G h0 = 8) (G1 : G p1 = 2) (Ra : hw_RT G ra) (gln_a : 0 ≤ ln_a.toInt ∧ ln_a.toInt ≤ 200) (gcl_a : 0 ≤ cl_a.toInt ∧ cl_a.toInt ≤ 20) (gst_a : 0 ≤ st_a.toInt ∧ st_a.toInt ≤ 200) (gen_a : 0 ≤ en_a.toInt ∧ en_a.toInt ≤ 200) : Met l yX10_readFor wsX10_readFor ({ frames := 7, cells := 0, slots := 0, locals := 152 } : Room) (hw_PC D G [.ref h0, .ref p1] sz (fun H => va_at D.1 vwCl (h0, .inr (9, hw_LT ra ln_a cl_a st_a en_a kf_a lf_a wf_a)) H)) (hw_QM (fun v H => (∃ (cl_a2 : Int32) (st_a2 : Int32) (en_a2 : Int32) (kf_a2 : Int32) (lf_a2 : Int32) (wf_a2 : Int32), v = some (.int (-1)) ∧ hw_HT D G H ∧ va_at D.1 vwCl (h0, .inr (9, hw_LT ra ln_a cl_a2 st_a2 en_a2 kf_a2 lf_a2 wf_a2)) H ∧ (0 ≤ cl_a2.toInt ∧ cl_a2.toInt ≤ 20) ∧ (0 ≤ st_a2.toInt ∧ st_a2.toInt ≤ 200) ∧ (0 ≤ en_a2.toInt ∧ en_a2.toInt ≤ 200) ∧ 0 < ln_a.toInt) ∨ (∃ (r : Int32) (cl_a2 : Int32) (st_a2 : Int32) (en_a2 : Int32) (kf_a2 : Int32) (lf_a2 : Int32) (wf_a2 : Int32), v = some (.int r) ∧ hw_HT D G H ∧ va_at D.1 vwCl (h0, .inr (9, hw_LT ra ln_a cl_a2 st_a2 en_a2 kf_a2 lf_a2 wf_a2)) H ∧ (0 ≤ cl_a2.toInt ∧ cl_a2.toInt ≤ 20) ∧ (0 ≤ st_a2.toInt ∧ st_a2.toInt ≤ 200) ∧ (0 ≤ en_a2.toInt ∧ en_a2.toInt ≤ 200) ∧ (0 ≤ r.toInt ∧ r.toInt ≤ 200) ∧ (ln_a.toInt = 0 → r.toInt = 0))) (hw_AW G [8, 25, 26] sz)) 0 0 (hw_AW G [8, 25, 26] sz) := by
  refine hw_met (cc := cX10_readFor) (maxL := 3) (ret := (some .int)) (plainFor_of_name (by decide)) rfl (Nat.le_of_ble_eq_true rfl) ?_
  intro p e s m args below meth c QQ ls hsz hx hb hml hr hts hown hlocks hnm hH hK hST hF hQ hl
  subst hsz
  have hS : va_S (hw_AW G [8, 25, 26] s.heap.size) s.heap s.heap [] := va_S.rf
  have va := hF
  have hl : lv_has ls 3 [(0, .ref h0), (1, .ref p1)] := hl
  have u_9 : ∀ w ∈ u_ws RX10 TX10 10, w.before args s = true := fun w hw => hts w ((by decide +kernel : ∀ w ∈ u_ws RX10 TX10 10, w ∈ wsX10_readFor) w hw)
  have fp_29_9 : hw_FP s args m 29 9 2 false .int := ⟨RX10, "WardWalkers$Text", RX10, TX10, 10, tyX10, u_9, hown, rfl, by decide, (hts (.fieldLink RX10 29 "WardWalkers$Text" "clauses" "I") (by decide +kernel)), (fun _ h9 => h9), tyX10_ok, nmX10, rfl, (fun h => by cases h), by decide +kernel⟩
  have fp_32_9 : hw_FP s args m 32 9 6 false .int := ⟨RX10, "WardWalkers$Text", RX10, TX10, 10, tyX10, u_9, hown, rfl, by decide, (hts (.fieldLink RX10 32 "WardWalkers$Text" "end" "I") (by decide +kernel)), (fun _ h9 => h9), tyX10_ok, nmX10, rfl, (fun h => by cases h), by decide +kernel⟩
  have u_1 : ∀ w ∈ u_ws RX1 TX1 7, w.before args s = true := fun w hw => hts w ((by decide +kernel : ∀ w ∈ u_ws RX1 TX1 7, w ∈ wsX10_readFor) w hw)
  have fg_35_1 : hw_FG s args m 35 1 1 := ⟨RX10, "WardWalkers$Country", RX1, TX1, 7, u_1, hown, rfl, by decide, (hts (.fieldLink RX10 35 "WardWalkers$Country" "keyCount" "I") (by decide +kernel)), (fun _ h9 => h9)⟩
  have fp_40_9 : hw_FP s args m 40 9 7 false .int := ⟨RX10, "WardWalkers$Text", RX10, TX10, 10, tyX10, u_9, hown, rfl, by decide, (hts (.fieldLink RX10 40 "WardWalkers$Text" "keysFree" "I") (by decide +kernel)), (fun _ h9 => h9), tyX10_ok, nmX10, rfl, (fun h => by cases h), by decide +kernel⟩
  have fg_43_1 : hw_FG s args m 43 1 3 := ⟨RX10, "WardWalkers$Country", RX1, TX1, 7, u_1, hown, rfl, by decide, (hts (.fieldLink RX10 43 "WardWalkers$Country" "lockCount" "I") (by decide +kernel)), (fun _ h9 => h9)⟩
  have fp_46_9 : hw_FP s args m 46 9 8 false .int := ⟨RX10, "WardWalkers$Text", RX10, TX10, 10, tyX10, u_9, hown, rfl, by decide, (hts (.fieldLink RX10 46 "WardWalkers$Text" "locksFree" "I") (by decide +kernel)), (fun _ h9 => h9), tyX10_ok, nmX10, rfl, (fun h => by cases h), by decide +kernel⟩
  have fg_49_1 : hw_FG s args m 49 1 5 := ⟨RX10, "WardWalkers$Country", RX1, TX1, 7, u_1, hown, rfl, by decide, (hts (.fieldLink RX10 49 "WardWalkers$Country" "walkerCount" "I") (by decide +kernel)), (fun _ h9 => h9)⟩
  have fp_52_9 : hw_FP s args m 52 9 9 false .int := ⟨RX10, "WardWalkers$Text", RX10, TX10, 10, tyX10, u_9, hown, rfl, by decide, (hts (.fieldLink RX10 52 "WardWalkers$Text" "walkersFree" "I") (by decide +kernel)), (fun _ h9 => h9), tyX10_ok, nmX10, rfl, (fun h => by cases h), by decide +kernel⟩
  have fg_61_9 : hw_FG s args m 61 9 5 := ⟨RX10, "WardWalkers$Text", RX10, TX10, 10, u_9, hown, rfl, by decide, (hts (.fieldLink RX10 61 "WardWalkers$Text" "start" "I") (by decide +kernel)), (fun _ h9 => h9)⟩
  have fg_21_9 : hw_FG s args m 21 9 1 := ⟨RX10, "WardWalkers$Text", RX10, TX10, 10, u_9, hown, rfl, by decide, (hts (.fieldLink RX10 21 "WardWalkers$Text" "length" "I") (by decide +kernel)), (fun _ h9 => h9)⟩
  refine lv_aload_n hx hb dX10_readFor_0 rfl (lv_at hl 0 rfl) ?_
  refine lv_iconst (v := 0) hx hb dX10_readFor_1 (by decide) ?_
  refine hw_put (v := .int 0) (fs' := hw_LT ra ln_a 0 st_a en_a kf_a lf_a wf_a) hx hb fp_29_9 hK hH va (Nat.le_of_ble_eq_true rfl) rfl rfl rfl (fun _ => by rw [G0]; exact ⟨ra, ln_a, 0, st_a, en_a, kf_a, lf_a, wf_a, rfl, Ra, ⟨by first | decide | omega, by first | decide | omega⟩, ⟨by first | decide | omega, by first | decide | omega⟩, ⟨by first | decide | omega, by first | decide | omega⟩, ⟨by first | decide | omega, by first | decide | omega⟩⟩) hS (hw_AWi G0 (by decide)) dX10_readFor_2 (fun H locs hH va oq hz hS => ?_)
  refine lv_aload_n hx hb dX10_readFor_5 rfl (lv_at hl 0 rfl) ?_
  refine lv_iconst (v := 0) hx hb dX10_readFor_6 (by decide) ?_
  refine hw_put (v := .int 0) (fs' := hw_LT ra ln_a 0 st_a 0 kf_a lf_a wf_a) hx hb fp_32_9 hK hH va (Nat.le_of_ble_eq_true rfl) rfl rfl rfl (fun _ => by rw [G0]; exact ⟨ra, ln_a, 0, st_a, 0, kf_a, lf_a, wf_a, rfl, Ra, ⟨by first | decide | omega, by first | decide | omega⟩, ⟨by first | decide | omega, by first | decide | omega⟩, ⟨by first | decide | omega, by first | decide | omega⟩, ⟨by first | decide | omega, by first | decide | omega⟩⟩) hS (hw_AWi G0 (by decide)) dX10_readFor_7 (fun H locs hH va oq hz hS => ?_)
  refine lv_aload_n hx hb dX10_readFor_10 rfl (lv_at hl 0 rfl) ?_
  refine lv_bipush (v := 7) hx hb dX10_readFor_11 (by decide) ?_
  refine lv_aload_n hx hb dX10_readFor_13 rfl (lv_at hl 1 rfl) ?_
  obtain ⟨r1, kc_2, lc_3, wc_4, dk_5, v6, R7, g8, g9, g10⟩ := hH.oC G1
  refine hw_get hx hb fg_35_1 hK v6 rfl dX10_readFor_14 ?_
  refine lv_isub hx hb dX10_readFor_17 ?_
  refine lv_topi (fun x11 e12 => ?_)
  have t13 : x11.toInt = 7 - kc_2.toInt := by rw [e12]; exact hw_sub rfl rfl (by omega) (by omega)
  refine hw_put (v := .int x11) (fs' := hw_LT ra ln_a 0 st_a 0 x11 lf_a wf_a) hx hb fp_40_9 hK hH va (Nat.le_of_ble_eq_true rfl) rfl rfl rfl (fun _ => by rw [G0]; exact ⟨ra, ln_a, 0, st_a, 0, x11, lf_a, wf_a, rfl, Ra, ⟨by first | decide | omega, by first | decide | omega⟩, ⟨by first | decide | omega, by first | decide | omega⟩, ⟨by first | decide | omega, by first | decide | omega⟩, ⟨by first | decide | omega, by first | decide | omega⟩⟩) hS (hw_AWi G0 (by decide)) dX10_readFor_18 (fun H locs hH va oq hz hS => ?_)
  have v6 := va_at.kept v6 (oq _ (hw_ne G1 G0 (by decide)))
  refine lv_aload_n hx hb dX10_readFor_21 rfl (lv_at hl 0 rfl) ?_
  refine lv_bipush (v := 7) hx hb dX10_readFor_22 (by decide) ?_
  refine lv_aload_n hx hb dX10_readFor_24 rfl (lv_at hl 1 rfl) ?_
  refine hw_get hx hb fg_43_1 hK v6 rfl dX10_readFor_25 ?_
  refine lv_isub hx hb dX10_readFor_28 ?_
  refine lv_topi (fun x14 e15 => ?_)
  have t16 : x14.toInt = 7 - lc_3.toInt := by rw [e15]; exact hw_sub rfl rfl (by omega) (by omega)
  refine hw_put (v := .int x14) (fs' := hw_LT ra ln_a 0 st_a 0 x11 x14 wf_a) hx hb fp_46_9 hK hH va (Nat.le_of_ble_eq_true rfl) rfl rfl rfl (fun _ => by rw [G0]; exact ⟨ra, ln_a, 0, st_a, 0, x11, x14, wf_a, rfl, Ra, ⟨by first | decide | omega, by first | decide | omega⟩, ⟨by first | decide | omega, by first | decide | omega⟩, ⟨by first | decide | omega, by first | decide | omega⟩, ⟨by first | decide | omega, by first | decide | omega⟩⟩) hS (hw_AWi G0 (by decide)) dX10_readFor_29 (fun H locs hH va oq hz hS => ?_)
  have v6 := va_at.kept v6 (oq _ (hw_ne G1 G0 (by decide)))
  refine lv_aload_n hx hb dX10_readFor_32 rfl (lv_at hl 0 rfl) ?_
  refine lv_iconst (v := 3) hx hb dX10_readFor_33 (by decide) ?_
  refine lv_aload_n hx hb dX10_readFor_34 rfl (lv_at hl 1 rfl) ?_
  refine hw_get hx hb fg_49_1 hK v6 rfl dX10_readFor_35 ?_
  refine lv_isub hx hb dX10_readFor_38 ?_
  refine lv_topi (fun x17 e18 => ?_)
  have t19 : x17.toInt = 3 - wc_4.toInt := by rw [e18]; exact hw_sub rfl rfl (by omega) (by omega)
  refine hw_put (v := .int x17) (fs' := hw_LT ra ln_a 0 st_a 0 x11 x14 x17) hx hb fp_52_9 hK hH va (Nat.le_of_ble_eq_true rfl) rfl rfl rfl (fun _ => by rw [G0]; exact ⟨ra, ln_a, 0, st_a, 0, x11, x14, x17, rfl, Ra, ⟨by first | decide | omega, by first | decide | omega⟩, ⟨by first | decide | omega, by first | decide | omega⟩, ⟨by first | decide | omega, by first | decide | omega⟩, ⟨by first | decide | omega, by first | decide | omega⟩⟩) hS (hw_AWi G0 (by decide)) dX10_readFor_39 (fun H locs hH va oq hz hS => ?_)
  have v6 := va_at.kept v6 (oq _ (hw_ne G1 G0 (by decide)))
  refine lv_iconst (v := 0) hx hb dX10_readFor_42 (by decide) ?_
  refine lv_istore_n (lv' := [(2, .int 0), (0, .ref h0), (1, .ref p1)]) hx hb dX10_readFor_43 rfl hl (by decide) rfl (fun ls hl => ?_)
  have L44 : ∀ (n31 : Nat) (y2_20 : Int32) (cl_21 : Int32) (st_22 : Int32) (en_23 : Int32) (kf_24 : Int32) (lf_25 : Int32) (wf_26 : Int32) (hm : (20 - y2_20.toInt).toNat < n31) (g27 : 0 ≤ y2_20.toInt ∧ y2_20.toInt ≤ 20) (g28 : 0 ≤ cl_21.toInt ∧ cl_21.toInt ≤ 20) (g29 : 0 ≤ st_22.toInt ∧ st_22.toInt ≤ 200) (g30 : 0 ≤ en_23.toInt ∧ en_23.toInt ≤ 200) (inv44_0 : ln_a.toInt = 0 → en_23.toInt = 0) (inv44_1 : ln_a.toInt = 0 → y2_20.toInt = 0) (H : Heap) (locs : List Loc) (hH : hw_HT D G H) (va : va_at D.1 vwCl (h0, .inr (9, hw_LT ra ln_a cl_21 st_22 en_23 kf_24 lf_25 wf_26)) H) (hS : va_S (hw_AW G [8, 25, 26] s.heap.size) s.heap H locs) (ls : Array Slot) (hl : lv_has ls 3 [(2, .int y2_20), (0, .ref h0), (1, .ref p1)]), W p l e ({ frames := 7, cells := 0, slots := 0, locals := 152 } : Room) s m args below meth c H locs 0 0 QQ (F0 m 44 ls []) := by
    intro n31
    induction n31 with
    | zero => intro y2_20 cl_21 st_22 en_23 kf_24 lf_25 wf_26 hm; exact absurd hm (Nat.not_lt_zero _)
    | succ n31 ih44 =>
      intro y2_20 cl_21 st_22 en_23 kf_24 lf_25 wf_26 hm g27 g28 g29 g30 inv44_0 inv44_1 H locs hH va hS ls hl
      refine lv_iload_n hx hb dX10_readFor_44 rfl (lv_at hl 0 rfl) ?_
      refine lv_bipush (v := 20) hx hb dX10_readFor_45 (by decide) ?_
      refine lv_icmp_ge (tgt := 107) hx hb dX10_readFor_47 (by decide) (fun c32 => ?_) (fun c32 => ?_)
      · have b33 : 20 ≤ y2_20.toInt := hw_ile c32
        refine lv_aload_n hx hb dX10_readFor_107 rfl (lv_at hl 1 rfl) ?_
        refine hw_get hx hb fg_61_9 hK va rfl dX10_readFor_108 ?_
        exact hw_iretM (v := st_22) hx hb hr hlocks hQ hS rfl (Or.inr (⟨st_22, cl_21, st_22, en_23, kf_24, lf_25, wf_26, rfl, hH, va, ⟨by first | decide | omega, by first | decide | omega⟩, ⟨by first | decide | omega, by first | decide | omega⟩, ⟨by first | decide | omega, by first | decide | omega⟩, ⟨by first | decide | omega, by first | decide | omega⟩, (by first | rfl | trivial | assumption | omega | (intros; first | rfl | assumption | omega | (exfalso; omega)))⟩)) dX10_readFor_111
      · have b34 : y2_20.toInt < 20 := hw_inle c32
        refine lv_aload_n hx hb dX10_readFor_50 rfl (lv_at hl 1 rfl) ?_
        refine hw_cM0 (va_runV (As := []) (rest := []) ⟨hx, hb, hml, hown, hts⟩ (k_X10_nextToken l D G h0 _ ra ln_a cl_21 st_22 en_23 kf_24 lf_25 wf_26 G0 Ra ⟨by first | decide | omega, by first | decide | omega⟩ ⟨by first | decide | omega, by first | decide | omega⟩ ⟨by first | decide | omega, by first | decide | omega⟩ ⟨by first | decide | omega, by first | decide | omega⟩) (cwV 0 hts gX10_readFor_X10_nextToken rfl rfl rfl (by decide +kernel) ⟨Nat.le_of_ble_eq_true rfl, Nat.le_of_ble_eq_true rfl⟩) (hw_pV (hw_rc (q := (RX10, TX10, 10)) hK va rfl) hH hK hST hS (by decide) (fun _ h => Or.inl h) va) rfl rfl hl.1 rfl (lv_room (Nat.le_of_ble_eq_true rfl)) dX10_readFor_51 ⟨Nat.le_of_ble_eq_true rfl, Nat.le_of_ble_eq_true rfl⟩) hS (hw_AWsub (by decide) (fun _ _ => rfl) hS.1) (fun v H locs hp hz hk hS => ?_)
        obtain ⟨x35, x36, rfl, hH, v37, g38, g39, q40, q41, q42⟩ := hp
        refine lv_aload_n hx hb dX10_readFor_54 rfl (lv_at hl 1 rfl) ?_
        refine hw_cM0 (va_runV (As := []) (rest := []) ⟨hx, hb, hml, hown, hts⟩ (k_X10_readClause l D G h0 _ ra ln_a cl_21 x35 x36 kf_24 lf_25 wf_26 G0 Ra ⟨by first | decide | omega, by first | decide | omega⟩ ⟨by first | decide | omega, by first | decide | omega⟩ ⟨by first | decide | omega, by first | decide | omega⟩ ⟨by first | decide | omega, by first | decide | omega⟩) (cwV 0 hts gX10_readFor_X10_readClause rfl rfl rfl (by decide +kernel) ⟨Nat.le_of_ble_eq_true rfl, Nat.le_of_ble_eq_true rfl⟩) (hw_pV (hw_rc (q := (RX10, TX10, 10)) hK v37 rfl) hH hK hST hS (by decide) (fun _ h => Or.inl h) v37) rfl rfl hl.1 rfl (lv_room (Nat.le_of_ble_eq_true rfl)) dX10_readFor_55 ⟨Nat.le_of_ble_eq_true rfl, Nat.le_of_ble_eq_true rfl⟩) hS (hw_AWsub (by decide) (fun _ _ => rfl) hS.1) (fun v H locs hp hz hk hS => ?_)
        rcases hp with ⟨x43, x44, x45, x46, x47, x48, rfl, hH, v49, g50, g51, g52, q53⟩ | ⟨x54, x55, x56, x57, x58, x59, rfl, hH, v60, g61, g62, g63, q64⟩
        · refine lv_if_ne (tgt := 66) hx hb dX10_readFor_58 (by decide) (fun c65 => ?_) (fun c65 => ?_)
          · exact absurd c65 (by decide)
          · refine lv_aload_n hx hb dX10_readFor_61 rfl (lv_at hl 1 rfl) ?_
            refine hw_get hx hb fg_61_9 hK v49 rfl dX10_readFor_62 ?_
            exact hw_iretM (v := x44) hx hb hr hlocks hQ hS rfl (Or.inr (⟨x44, x43, x44, x45, x46, x47, x48, rfl, hH, v49, ⟨by first | decide | omega, by first | decide | omega⟩, ⟨by first | decide | omega, by first | decide | omega⟩, ⟨by first | decide | omega, by first | decide | omega⟩, ⟨by first | decide | omega, by first | decide | omega⟩, (by first | rfl | trivial | assumption | omega | (intros; first | rfl | assumption | omega | (exfalso; omega)))⟩)) dX10_readFor_65
        · refine lv_if_ne (tgt := 66) hx hb dX10_readFor_58 (by decide) (fun c66 => ?_) (fun c66 => ?_)
          · refine lv_aload_n hx hb dX10_readFor_66 rfl (lv_at hl 1 rfl) ?_
            refine hw_cM0 (va_runV (As := []) (rest := []) ⟨hx, hb, hml, hown, hts⟩ (k_X10_nextToken l D G h0 _ ra ln_a x54 x55 x56 x57 x58 x59 G0 Ra ⟨by first | decide | omega, by first | decide | omega⟩ ⟨by first | decide | omega, by first | decide | omega⟩ ⟨by first | decide | omega, by first | decide | omega⟩ ⟨by first | decide | omega, by first | decide | omega⟩) (cwV 0 hts gX10_readFor_X10_nextToken rfl rfl rfl (by decide +kernel) ⟨Nat.le_of_ble_eq_true rfl, Nat.le_of_ble_eq_true rfl⟩) (hw_pV (hw_rc (q := (RX10, TX10, 10)) hK v60 rfl) hH hK hST hS (by decide) (fun _ h => Or.inl h) v60) rfl rfl hl.1 rfl (lv_room (Nat.le_of_ble_eq_true rfl)) dX10_readFor_67 ⟨Nat.le_of_ble_eq_true rfl, Nat.le_of_ble_eq_true rfl⟩) hS (hw_AWsub (by decide) (fun _ _ => rfl) hS.1) (fun v H locs hp hz hk hS => ?_)
            obtain ⟨x67, x68, rfl, hH, v69, g70, g71, q72, q73, q74⟩ := hp
            refine lv_aload_n hx hb dX10_readFor_70 rfl (lv_at hl 1 rfl) ?_
            refine hw_get hx hb fg_61_9 hK v69 rfl dX10_readFor_71 ?_
            refine lv_aload_n hx hb dX10_readFor_74 rfl (lv_at hl 1 rfl) ?_
            refine hw_get hx hb fg_21_9 hK v69 rfl dX10_readFor_75 ?_
            refine lv_icmp_lt (tgt := 83) hx hb dX10_readFor_78 (by decide) (fun c75 => ?_) (fun c75 => ?_)
            · have b76 : x67.toInt < ln_a.toInt := hw_ilt c75
              refine lv_aload_n hx hb dX10_readFor_83 rfl (lv_at hl 1 rfl) ?_
              refine lv_aload_n hx hb dX10_readFor_84 rfl (lv_at hl 1 rfl) ?_
              refine hw_get hx hb fg_61_9 hK v69 rfl dX10_readFor_85 ?_
              refine hw_cR (va_runV (As := [.int x67]) (rest := []) ⟨hx, hb, hml, hown, hts⟩ (k_X10_letterAt l D G h0 x67 _ G0) (cwV 1 hts gX10_readFor_X10_letterAt rfl rfl rfl (by decide +kernel) ⟨Nat.le_of_ble_eq_true rfl, Nat.le_of_ble_eq_true rfl⟩) (hw_pV (hw_rc (q := (RX10, TX10, 10)) hK v69 rfl) hH hK hST hS (by decide) (fun _ h => Or.inl h) trivial) rfl rfl hl.1 rfl (lv_room (Nat.le_of_ble_eq_true rfl)) dX10_readFor_88 ⟨Nat.le_of_ble_eq_true rfl, Nat.le_of_ble_eq_true rfl⟩) (fun v hp => ?_)
              obtain ⟨x77, rfl⟩ := hp
              refine lv_bipush (v := 59) hx hb dX10_readFor_91 (by decide) ?_
              refine lv_icmp_eq (tgt := 101) hx hb dX10_readFor_93 (by decide) (fun c78 => ?_) (fun c78 => ?_)
              · have b79 : x77.toInt = 59 := hw_ieq c78
                obtain ⟨x80, e81⟩ : ∃ y : Int32, y = y2_20 + 1 := ⟨_, rfl⟩
                refine lv_iinc (v := x80) (lv' := [(2, .int x80), (0, .ref h0), (1, .ref p1)]) hx hb dX10_readFor_101 hl (k := 0) rfl (by rw [e81]; rfl) (by decide) rfl (fun ls hl => ?_)
                have t82 : x80.toInt = y2_20.toInt + 1 := by rw [e81]; exact hw_add rfl rfl (by omega) (by omega)
                refine lv_goto (tgt := 44) hx hb dX10_readFor_104 (by decide) ?_
                exact ih44 x80 x54 x67 x68 x57 x58 x59 (by first | omega | omega) ⟨by first | decide | omega, by first | decide | omega⟩ ⟨by first | decide | omega, by first | decide | omega⟩ ⟨by first | decide | omega, by first | decide | omega⟩ ⟨by first | decide | omega, by first | decide | omega⟩ (by first | assumption | omega | decide | rfl | (intros; first | rfl | assumption | omega)) (by first | assumption | omega | decide | rfl | (intros; first | rfl | assumption | omega)) _ _ hH v69 hS _ (lv_sub hl [0, 1, 2] rfl)
              · have b83 : x77.toInt ≠ 59 := hw_ine c78
                refine lv_aload_n hx hb dX10_readFor_96 rfl (lv_at hl 1 rfl) ?_
                refine hw_get hx hb fg_61_9 hK v69 rfl dX10_readFor_97 ?_
                exact hw_iretM (v := x67) hx hb hr hlocks hQ hS rfl (Or.inr (⟨x67, x54, x67, x68, x57, x58, x59, rfl, hH, v69, ⟨by first | decide | omega, by first | decide | omega⟩, ⟨by first | decide | omega, by first | decide | omega⟩, ⟨by first | decide | omega, by first | decide | omega⟩, ⟨by first | decide | omega, by first | decide | omega⟩, (by first | rfl | trivial | assumption | omega | (intros; first | rfl | assumption | omega | (exfalso; omega)))⟩)) dX10_readFor_100
            · have b84 : ln_a.toInt ≤ x67.toInt := hw_inlt c75
              refine lv_iconst (v := (-1)) hx hb dX10_readFor_81 (by decide) ?_
              exact hw_iretM (v := (-1)) hx hb hr hlocks hQ hS rfl (Or.inl ⟨x54, x67, x68, x57, x58, x59, rfl, hH, v69, ⟨by first | decide | omega, by first | decide | omega⟩, ⟨by first | decide | omega, by first | decide | omega⟩, ⟨by first | decide | omega, by first | decide | omega⟩, (by first | rfl | trivial | assumption | omega | (intros; first | rfl | assumption | omega | (exfalso; omega)))⟩) dX10_readFor_82
          · exact absurd c66 (by decide)
  exact L44 _ 0 0 st_a 0 x11 x14 x17 (Nat.lt_succ_self _) ⟨by first | decide | omega, by first | decide | omega⟩ ⟨by first | decide | omega, by first | decide | omega⟩ ⟨by first | decide | omega, by first | decide | omega⟩ ⟨by first | decide | omega, by first | decide | omega⟩ (by first | assumption | omega | decide | rfl | (intros; first | rfl | assumption | omega)) (by first | assumption | omega | decide | rfl | (intros; first | rfl | assumption | omega)) _ _ hH va hS _ (lv_sub hl [0, 1, 2] rfl)
