set_option maxHeartbeats 40000000 in
set_option maxRecDepth 100000 in
theorem k_X12_init (l : Launch) (D : hw_D) (G : Nat → Nat) (h0 : Nat) (sz : Nat) (G0 : G h0 = 109) : Met l yX12_init wsX12_init ({ frames := 1, cells := 31, slots := 2994, locals := 12 } : Room) (hw_PC D G [.ref h0] sz (fun H => va_at D.1 vwCl (h0, .inr (11, [.null, .int 0, .null, .int 0, .null, .null, .null, .int 0, .null, .null, .null, .null, .int 0, .null, .int 0, .null, .int 0, .int 0, .null, .null, .int 0, .int 0, .int 0, .int 0, .int 0, .int 0, .int 0, .null, .null, .null, .null, .null, .null, .null, .null, .null, .null, .null, .null, .null, .null, .null, .null, .null, .null])) H)) (hw_QM (fun v H => ∃ (G2 : Nat → Nat) (r2 : Nat → Nat) (fro : Nat → Int32) (fik : Nat → Int32) (fla : Nat → Int32) (fsz : Nat → Int32), v = none ∧ hw_HT D G2 H ∧ (∀ q, q < sz → q ≠ h0 → G2 q = G q) ∧ G2 h0 = 9 ∧ hw_RM G2 r2 ∧ va_at D.1 vwCl (h0, .inr (11, hw_LM r2 0 0 0 0 60 0 0 0 0 0 0 0 0 0)) H ∧ va_at D.1 vwCl (r2 0, .inl (D.2.1 0, 253, .inl fro)) H ∧ (∀ j, fro j = 0) ∧ va_at D.1 vwCl (r2 2, .inl (D.2.1 2, 2, .inl fik)) H ∧ (∀ j, fik j = 0) ∧ va_at D.1 vwCl (r2 41, .inl (D.2.1 0, 4, .inl fla)) H ∧ va_at D.1 vwCl (r2 42, .inl (D.2.1 0, 4, .inl fsz)) H ∧ (∀ j, j < 4 → fsz j = -1)) (hw_AW G [109] sz)) 31 2994 (hw_AW G [109] sz) := by
  refine hw_met (cc := cX12_init) (maxL := 1) (ret := none) (plainFor_of_name (by decide)) rfl (Nat.le_of_ble_eq_true rfl) ?_
  intro p e s m args below meth c QQ ls hsz hx hb hml hr hts hown hlocks hnm hH hK hST hF hQ hl
  subst hsz
  have hS : va_S (hw_AW G [109] s.heap.size) s.heap s.heap [] := va_S.rf
  have va := hF
  have hl : lv_has ls 1 [(0, .ref h0)] := hl
  have u_11 : ∀ w ∈ u_ws RX12 TX12 45, w.before args s = true := fun w hw => hts w ((by decide +kernel : ∀ w ∈ u_ws RX12 TX12 45, w ∈ wsX12_init) w hw)
  have ff_7_11 : hw_FP s args m 7 11 0 true (.array .int) := ⟨RX12, "WardWalkersModel", RX12, TX12, 45, tyX12, u_11, hown, rfl, by decide, (hts (.fieldLink RX12 7 "WardWalkersModel" "row" "[I") (by decide +kernel)), (fun _ h9 => h9), tyX12_ok, nmX12, rfl, fun _ => rfl, by decide +kernel⟩
  have ff_13_11 : hw_FP s args m 13 11 2 true (.array .boolean) := ⟨RX12, "WardWalkersModel", RX12, TX12, 45, tyX12, u_11, hown, rfl, by decide, (hts (.fieldLink RX12 13 "WardWalkersModel" "isKept" "[Z") (by decide +kernel)), (fun _ h9 => h9), tyX12_ok, nmX12, rfl, fun _ => rfl, by decide +kernel⟩
  have ff_17_11 : hw_FP s args m 17 11 4 true (.array .int) := ⟨RX12, "WardWalkersModel", RX12, TX12, 45, tyX12, u_11, hown, rfl, by decide, (hts (.fieldLink RX12 17 "WardWalkersModel" "kinds" "[I") (by decide +kernel)), (fun _ h9 => h9), tyX12_ok, nmX12, rfl, fun _ => rfl, by decide +kernel⟩
  have ff_20_11 : hw_FP s args m 20 11 5 true (.array .int) := ⟨RX12, "WardWalkersModel", RX12, TX12, 45, tyX12, u_11, hown, rfl, by decide, (hts (.fieldLink RX12 20 "WardWalkersModel" "keyCuts" "[I") (by decide +kernel)), (fun _ h9 => h9), tyX12_ok, nmX12, rfl, fun _ => rfl, by decide +kernel⟩
  have ff_23_11 : hw_FP s args m 23 11 6 true (.array .int) := ⟨RX12, "WardWalkersModel", RX12, TX12, 45, tyX12, u_11, hown, rfl, by decide, (hts (.fieldLink RX12 23 "WardWalkersModel" "marks" "[I") (by decide +kernel)), (fun _ h9 => h9), tyX12_ok, nmX12, rfl, fun _ => rfl, by decide +kernel⟩
  have ff_26_11 : hw_FP s args m 26 11 8 true (.array .int) := ⟨RX12, "WardWalkersModel", RX12, TX12, 45, tyX12, u_11, hown, rfl, by decide, (hts (.fieldLink RX12 26 "WardWalkersModel" "places" "[I") (by decide +kernel)), (fun _ h9 => h9), tyX12_ok, nmX12, rfl, fun _ => rfl, by decide +kernel⟩
  have ff_29_11 : hw_FP s args m 29 11 9 true (.array .int) := ⟨RX12, "WardWalkersModel", RX12, TX12, 45, tyX12, u_11, hown, rfl, by decide, (hts (.fieldLink RX12 29 "WardWalkersModel" "wanted" "[I") (by decide +kernel)), (fun _ h9 => h9), tyX12_ok, nmX12, rfl, fun _ => rfl, by decide +kernel⟩
  have ff_32_11 : hw_FP s args m 32 11 10 true (.array .int) := ⟨RX12, "WardWalkersModel", RX12, TX12, 45, tyX12, u_11, hown, rfl, by decide, (hts (.fieldLink RX12 32 "WardWalkersModel" "plays" "[I") (by decide +kernel)), (fun _ h9 => h9), tyX12_ok, nmX12, rfl, fun _ => rfl, by decide +kernel⟩
  have ff_35_11 : hw_FP s args m 35 11 11 true (.array .int) := ⟨RX12, "WardWalkersModel", RX12, TX12, 45, tyX12, u_11, hown, rfl, by decide, (hts (.fieldLink RX12 35 "WardWalkersModel" "values" "[I") (by decide +kernel)), (fun _ h9 => h9), tyX12_ok, nmX12, rfl, fun _ => rfl, by decide +kernel⟩
  have ff_38_11 : hw_FP s args m 38 11 13 true (.array .int) := ⟨RX12, "WardWalkersModel", RX12, TX12, 45, tyX12, u_11, hown, rfl, by decide, (hts (.fieldLink RX12 38 "WardWalkersModel" "begun" "[I") (by decide +kernel)), (fun _ h9 => h9), tyX12_ok, nmX12, rfl, fun _ => rfl, by decide +kernel⟩
  have fp_41_11 : hw_FP s args m 41 11 14 false .int := ⟨RX12, "WardWalkersModel", RX12, TX12, 45, tyX12, u_11, hown, rfl, by decide, (hts (.fieldLink RX12 41 "WardWalkersModel" "dark" "I") (by decide +kernel)), (fun _ h9 => h9), tyX12_ok, nmX12, rfl, (fun h => by cases h), by decide +kernel⟩
  have ff_45_11 : hw_FP s args m 45 11 15 true (.array .int) := ⟨RX12, "WardWalkersModel", RX12, TX12, 45, tyX12, u_11, hown, rfl, by decide, (hts (.fieldLink RX12 45 "WardWalkersModel" "text" "[I") (by decide +kernel)), (fun _ h9 => h9), tyX12_ok, nmX12, rfl, fun _ => rfl, by decide +kernel⟩
  have ff_48_11 : hw_FP s args m 48 11 18 true (.array .int) := ⟨RX12, "WardWalkersModel", RX12, TX12, 45, tyX12, u_11, hown, rfl, by decide, (hts (.fieldLink RX12 48 "WardWalkersModel" "seenLock" "[I") (by decide +kernel)), (fun _ h9 => h9), tyX12_ok, nmX12, rfl, fun _ => rfl, by decide +kernel⟩
  have ff_51_11 : hw_FP s args m 51 11 19 true (.array .int) := ⟨RX12, "WardWalkersModel", RX12, TX12, 45, tyX12, u_11, hown, rfl, by decide, (hts (.fieldLink RX12 51 "WardWalkersModel" "seenWent" "[I") (by decide +kernel)), (fun _ h9 => h9), tyX12_ok, nmX12, rfl, fun _ => rfl, by decide +kernel⟩
  have ff_54_11 : hw_FP s args m 54 11 27 true (.array .int) := ⟨RX12, "WardWalkersModel", RX12, TX12, 45, tyX12, u_11, hown, rfl, by decide, (hts (.fieldLink RX12 54 "WardWalkersModel" "numbers" "[I") (by decide +kernel)), (fun _ h9 => h9), tyX12_ok, nmX12, rfl, fun _ => rfl, by decide +kernel⟩
  have ff_57_11 : hw_FP s args m 57 11 28 true (.array .int) := ⟨RX12, "WardWalkersModel", RX12, TX12, 45, tyX12, u_11, hown, rfl, by decide, (hts (.fieldLink RX12 57 "WardWalkersModel" "brassWord" "[I") (by decide +kernel)), (fun _ h9 => h9), tyX12_ok, nmX12, rfl, fun _ => rfl, by decide +kernel⟩
  have ff_60_11 : hw_FP s args m 60 11 29 true (.array .int) := ⟨RX12, "WardWalkersModel", RX12, TX12, 45, tyX12, u_11, hown, rfl, by decide, (hts (.fieldLink RX12 60 "WardWalkersModel" "rustyWord" "[I") (by decide +kernel)), (fun _ h9 => h9), tyX12_ok, nmX12, rfl, fun _ => rfl, by decide +kernel⟩
  have ff_63_11 : hw_FP s args m 63 11 30 true (.array .int) := ⟨RX12, "WardWalkersModel", RX12, TX12, 45, tyX12, u_11, hown, rfl, by decide, (hts (.fieldLink RX12 63 "WardWalkersModel" "masterWord" "[I") (by decide +kernel)), (fun _ h9 => h9), tyX12_ok, nmX12, rfl, fun _ => rfl, by decide +kernel⟩
  have ff_66_11 : hw_FP s args m 66 11 31 true (.array .int) := ⟨RX12, "WardWalkersModel", RX12, TX12, 45, tyX12, u_11, hown, rfl, by decide, (hts (.fieldLink RX12 66 "WardWalkersModel" "filedWord" "[I") (by decide +kernel)), (fun _ h9 => h9), tyX12_ok, nmX12, rfl, fun _ => rfl, by decide +kernel⟩
  have ff_69_11 : hw_FP s args m 69 11 32 true (.array .int) := ⟨RX12, "WardWalkersModel", RX12, TX12, 45, tyX12, u_11, hown, rfl, by decide, (hts (.fieldLink RX12 69 "WardWalkersModel" "landWord" "[I") (by decide +kernel)), (fun _ h9 => h9), tyX12_ok, nmX12, rfl, fun _ => rfl, by decide +kernel⟩
  have ff_72_11 : hw_FP s args m 72 11 33 true (.array .int) := ⟨RX12, "WardWalkersModel", RX12, TX12, 45, tyX12, u_11, hown, rfl, by decide, (hts (.fieldLink RX12 72 "WardWalkersModel" "lockWord" "[I") (by decide +kernel)), (fun _ h9 => h9), tyX12_ok, nmX12, rfl, fun _ => rfl, by decide +kernel⟩
  have ff_75_11 : hw_FP s args m 75 11 34 true (.array .int) := ⟨RX12, "WardWalkersModel", RX12, TX12, 45, tyX12, u_11, hown, rfl, by decide, (hts (.fieldLink RX12 75 "WardWalkersModel" "walkerWord" "[I") (by decide +kernel)), (fun _ h9 => h9), tyX12_ok, nmX12, rfl, fun _ => rfl, by decide +kernel⟩
  have ff_78_11 : hw_FP s args m 78 11 35 true (.array .int) := ⟨RX12, "WardWalkersModel", RX12, TX12, 45, tyX12, u_11, hown, rfl, by decide, (hts (.fieldLink RX12 78 "WardWalkersModel" "darkWord" "[I") (by decide +kernel)), (fun _ h9 => h9), tyX12_ok, nmX12, rfl, fun _ => rfl, by decide +kernel⟩
  have ff_81_11 : hw_FP s args m 81 11 36 true (.array .int) := ⟨RX12, "WardWalkersModel", RX12, TX12, 45, tyX12, u_11, hown, rfl, by decide, (hts (.fieldLink RX12 81 "WardWalkersModel" "most" "[I") (by decide +kernel)), (fun _ h9 => h9), tyX12_ok, nmX12, rfl, fun _ => rfl, by decide +kernel⟩
  have ff_84_11 : hw_FP s args m 84 11 37 true (.array .int) := ⟨RX12, "WardWalkersModel", RX12, TX12, 45, tyX12, u_11, hown, rfl, by decide, (hts (.fieldLink RX12 84 "WardWalkersModel" "ways" "[I") (by decide +kernel)), (fun _ h9 => h9), tyX12_ok, nmX12, rfl, fun _ => rfl, by decide +kernel⟩
  have ff_87_11 : hw_FP s args m 87 11 38 true (.array .int) := ⟨RX12, "WardWalkersModel", RX12, TX12, 45, tyX12, u_11, hown, rfl, by decide, (hts (.fieldLink RX12 87 "WardWalkersModel" "alone" "[I") (by decide +kernel)), (fun _ h9 => h9), tyX12_ok, nmX12, rfl, fun _ => rfl, by decide +kernel⟩
  have ff_90_11 : hw_FP s args m 90 11 39 true (.array .int) := ⟨RX12, "WardWalkersModel", RX12, TX12, 45, tyX12, u_11, hown, rfl, by decide, (hts (.fieldLink RX12 90 "WardWalkersModel" "together" "[I") (by decide +kernel)), (fun _ h9 => h9), tyX12_ok, nmX12, rfl, fun _ => rfl, by decide +kernel⟩
  have ff_93_11 : hw_FP s args m 93 11 40 true (.array .int) := ⟨RX12, "WardWalkersModel", RX12, TX12, 45, tyX12, u_11, hown, rfl, by decide, (hts (.fieldLink RX12 93 "WardWalkersModel" "then" "[I") (by decide +kernel)), (fun _ h9 => h9), tyX12_ok, nmX12, rfl, fun _ => rfl, by decide +kernel⟩
  have ff_96_11 : hw_FP s args m 96 11 41 true (.array .int) := ⟨RX12, "WardWalkersModel", RX12, TX12, 45, tyX12, u_11, hown, rfl, by decide, (hts (.fieldLink RX12 96 "WardWalkersModel" "lanes" "[I") (by decide +kernel)), (fun _ h9 => h9), tyX12_ok, nmX12, rfl, fun _ => rfl, by decide +kernel⟩
  have ff_99_11 : hw_FP s args m 99 11 42 true (.array .int) := ⟨RX12, "WardWalkersModel", RX12, TX12, 45, tyX12, u_11, hown, rfl, by decide, (hts (.fieldLink RX12 99 "WardWalkersModel" "sizes" "[I") (by decide +kernel)), (fun _ h9 => h9), tyX12_ok, nmX12, rfl, fun _ => rfl, by decide +kernel⟩
  have ff_102_11 : hw_FP s args m 102 11 43 true (.array .long) := ⟨RX12, "WardWalkersModel", RX12, TX12, 45, tyX12, u_11, hown, rfl, by decide, (hts (.fieldLink RX12 102 "WardWalkersModel" "things" "[J") (by decide +kernel)), (fun _ h9 => h9), tyX12_ok, nmX12, rfl, fun _ => rfl, by decide +kernel⟩
  have ff_106_11 : hw_FP s args m 106 11 44 true (.array .long) := ⟨RX12, "WardWalkersModel", RX12, TX12, 45, tyX12, u_11, hown, rfl, by decide, (hts (.fieldLink RX12 106 "WardWalkersModel" "held" "[J") (by decide +kernel)), (fun _ h9 => h9), tyX12_ok, nmX12, rfl, fun _ => rfl, by decide +kernel⟩
  have hHs := hH
  refine lv_aload_n hx hb dX12_init_0 rfl (lv_at hl 0 rfl) ?_
  refine W.objInit hx hb hown (hts (.methodLink RX12 1 objectInit) (by decide +kernel)) (hts (.instanceMethod objectInit) (by decide +kernel)) (hts (.code objectInit ⟨#[0xb1]⟩ 1 none) (by decide +kernel)) rfl (by rw [hml]; exact hl.1) rfl dX12_init_1 (Nat.le_of_ble_eq_true rfl) (Nat.le_of_ble_eq_true rfl) ?_
  refine W.eq (g2 := F0 m 4 ls []) rfl ?_
  refine lv_aload_n hx hb dX12_init_4 rfl (lv_at hl 0 rfl) ?_
  refine lv_sipush (v := 253) hx hb dX12_init_5 (by decide) ?_
  have hS0 := hS
  refine hw_newa hx hb 40 (atype := .int) (hts (.arrayClass .int) (by decide +kernel)) (ty := .int) rfl (t := 0) rfl (fun _ h9 => h9) hK hH hS (n := 253) (N := 253) (253, .inl (fun _ => 0)) (fun _ => rfl) (show hw_ok D.2.1 G 40 _ from ⟨_, rfl⟩) (by decide) (by decide) (by decide) (Nat.le_of_ble_eq_true rfl) (Nat.le_of_ble_eq_true rfl) dX12_init_8 (fun q1 G2 H hH m3 m4 k5 l6 e7 v8 oq hz hS => ?_)
  have w9 : s.heap.size ≤ q1 := by have := hS0.1; omega
  have g10 : ∀ x, x < s.heap.size → G2 x = G x := fun x h9 => (l6 x (Nat.lt_of_lt_of_le h9 hS0.1)).trans ((fun _ _ => rfl) x h9)
  have va := va_at.kept va (oq _ (hw_lt va))
  have k11 := hw_kg2 m4 G0 (by decide)
  refine hw_putF (v := .ref q1) (fs' := [.ref q1, .int 0, .null, .int 0, .null, .null, .null, .int 0, .null, .null, .null, .null, .int 0, .null, .int 0, .null, .int 0, .int 0, .null, .null, .int 0, .int 0, .int 0, .int 0, .int 0, .int 0, .int 0, .null, .null, .null, .null, .null, .null, .null, .null, .null, .null, .null, .null, .null, .null, .null, .null, .null, .null]) hx hb ff_7_11 hnm hK hH va (Nat.le_of_ble_eq_true rfl) rfl rfl rfl (fun _ => by rw [k11]; exact (show hw_ok D.2.1 G2 109 _ from ⟨_, rfl⟩)) hS (hw_AWi2 g10 k11 (by decide)) dX12_init_10 (fun H locs hH va oq hz hS => ?_)
  have v8 := va_at.kept v8 (oq _ (hw_ne k5 k11 (by decide)))
  refine lv_aload_n hx hb dX12_init_13 rfl (lv_at hl 0 rfl) ?_
  refine lv_iconst (v := 2) hx hb dX12_init_14 (by decide) ?_
  have hS0 := hS
  refine hw_newa hx hb 42 (atype := .boolean) (hts (.arrayClass .boolean) (by decide +kernel)) (ty := .boolean) rfl (t := 2) rfl (fun _ h9 => h9) hK hH hS (n := 2) (N := 2) (2, .inl (fun _ => 0)) (fun _ => rfl) (show hw_ok D.2.1 G2 42 _ from ⟨_, rfl⟩) (by decide) (by decide) (by decide) (Nat.le_of_ble_eq_true rfl) (Nat.le_of_ble_eq_true rfl) dX12_init_15 (fun q12 G13 H hH m14 m15 k16 l17 e18 v19 oq hz hS => ?_)
  have w20 : s.heap.size ≤ q12 := by have := hS0.1; omega
  have g21 : ∀ x, x < s.heap.size → G13 x = G x := fun x h9 => (l17 x (Nat.lt_of_lt_of_le h9 hS0.1)).trans (g10 x h9)
  have va := va_at.kept va (oq _ (hw_lt va))
  have v8 := va_at.kept v8 (oq _ (hw_lt v8))
  have k22 := hw_kg2 m15 k11 (by decide)
  have k23 := hw_kg m14 k5 (by decide) (by decide)
  refine hw_putF (v := .ref q12) (fs' := [.ref q1, .int 0, .ref q12, .int 0, .null, .null, .null, .int 0, .null, .null, .null, .null, .int 0, .null, .int 0, .null, .int 0, .int 0, .null, .null, .int 0, .int 0, .int 0, .int 0, .int 0, .int 0, .int 0, .null, .null, .null, .null, .null, .null, .null, .null, .null, .null, .null, .null, .null, .null, .null, .null, .null, .null]) hx hb ff_13_11 hnm hK hH va (Nat.le_of_ble_eq_true rfl) rfl rfl rfl (fun _ => by rw [k22]; exact (show hw_ok D.2.1 G13 109 _ from ⟨_, rfl⟩)) hS (hw_AWi2 g21 k22 (by decide)) dX12_init_17 (fun H locs hH va oq hz hS => ?_)
  have v8 := va_at.kept v8 (oq _ (hw_ne k23 k22 (by decide)))
  have v19 := va_at.kept v19 (oq _ (hw_ne k16 k22 (by decide)))
  refine lv_aload_n hx hb dX12_init_20 rfl (lv_at hl 0 rfl) ?_
  refine lv_bipush (v := 7) hx hb dX12_init_21 (by decide) ?_
  have hS0 := hS
  refine hw_newa hx hb 44 (atype := .int) (hts (.arrayClass .int) (by decide +kernel)) (ty := .int) rfl (t := 0) rfl (fun _ h9 => h9) hK hH hS (n := 7) (N := 7) (7, .inl (fun _ => 0)) (fun _ => rfl) (show hw_ok D.2.1 G13 44 _ from ⟨_, rfl⟩) (by decide) (by decide) (by decide) (Nat.le_of_ble_eq_true rfl) (Nat.le_of_ble_eq_true rfl) dX12_init_23 (fun q24 G25 H hH m26 m27 k28 l29 e30 v31 oq hz hS => ?_)
  have w32 : s.heap.size ≤ q24 := by have := hS0.1; omega
  have g33 : ∀ x, x < s.heap.size → G25 x = G x := fun x h9 => (l29 x (Nat.lt_of_lt_of_le h9 hS0.1)).trans (g21 x h9)
  have va := va_at.kept va (oq _ (hw_lt va))
  have v8 := va_at.kept v8 (oq _ (hw_lt v8))
  have v19 := va_at.kept v19 (oq _ (hw_lt v19))
  have k34 := hw_kg2 m27 k22 (by decide)
  have k35 := hw_kg m26 k23 (by decide) (by decide)
  have k36 := hw_kg m26 k16 (by decide) (by decide)
  refine hw_putF (v := .ref q24) (fs' := [.ref q1, .int 0, .ref q12, .int 0, .ref q24, .null, .null, .int 0, .null, .null, .null, .null, .int 0, .null, .int 0, .null, .int 0, .int 0, .null, .null, .int 0, .int 0, .int 0, .int 0, .int 0, .int 0, .int 0, .null, .null, .null, .null, .null, .null, .null, .null, .null, .null, .null, .null, .null, .null, .null, .null, .null, .null]) hx hb ff_17_11 hnm hK hH va (Nat.le_of_ble_eq_true rfl) rfl rfl rfl (fun _ => by rw [k34]; exact (show hw_ok D.2.1 G25 109 _ from ⟨_, rfl⟩)) hS (hw_AWi2 g33 k34 (by decide)) dX12_init_25 (fun H locs hH va oq hz hS => ?_)
  have v8 := va_at.kept v8 (oq _ (hw_ne k35 k34 (by decide)))
  have v19 := va_at.kept v19 (oq _ (hw_ne k36 k34 (by decide)))
  refine lv_aload_n hx hb dX12_init_28 rfl (lv_at hl 0 rfl) ?_
  refine lv_bipush (v := 7) hx hb dX12_init_29 (by decide) ?_
  have hS0 := hS
  refine hw_newa hx hb 45 (atype := .int) (hts (.arrayClass .int) (by decide +kernel)) (ty := .int) rfl (t := 0) rfl (fun _ h9 => h9) hK hH hS (n := 7) (N := 7) (7, .inl (fun _ => 0)) (fun _ => rfl) (show hw_ok D.2.1 G25 45 _ from ⟨_, rfl⟩) (by decide) (by decide) (by decide) (Nat.le_of_ble_eq_true rfl) (Nat.le_of_ble_eq_true rfl) dX12_init_31 (fun q37 G38 H hH m39 m40 k41 l42 e43 v44 oq hz hS => ?_)
  have w45 : s.heap.size ≤ q37 := by have := hS0.1; omega
  have g46 : ∀ x, x < s.heap.size → G38 x = G x := fun x h9 => (l42 x (Nat.lt_of_lt_of_le h9 hS0.1)).trans (g33 x h9)
  have va := va_at.kept va (oq _ (hw_lt va))
  have v8 := va_at.kept v8 (oq _ (hw_lt v8))
  have v19 := va_at.kept v19 (oq _ (hw_lt v19))
  have k47 := hw_kg2 m40 k34 (by decide)
  have k48 := hw_kg m39 k35 (by decide) (by decide)
  have k49 := hw_kg m39 k36 (by decide) (by decide)
  have k50 := hw_kg m39 k28 (by decide) (by decide)
  refine hw_putF (v := .ref q37) (fs' := [.ref q1, .int 0, .ref q12, .int 0, .ref q24, .ref q37, .null, .int 0, .null, .null, .null, .null, .int 0, .null, .int 0, .null, .int 0, .int 0, .null, .null, .int 0, .int 0, .int 0, .int 0, .int 0, .int 0, .int 0, .null, .null, .null, .null, .null, .null, .null, .null, .null, .null, .null, .null, .null, .null, .null, .null, .null, .null]) hx hb ff_20_11 hnm hK hH va (Nat.le_of_ble_eq_true rfl) rfl rfl rfl (fun _ => by rw [k47]; exact (show hw_ok D.2.1 G38 109 _ from ⟨_, rfl⟩)) hS (hw_AWi2 g46 k47 (by decide)) dX12_init_33 (fun H locs hH va oq hz hS => ?_)
  have v8 := va_at.kept v8 (oq _ (hw_ne k48 k47 (by decide)))
  have v19 := va_at.kept v19 (oq _ (hw_ne k49 k47 (by decide)))
  refine lv_aload_n hx hb dX12_init_36 rfl (lv_at hl 0 rfl) ?_
  refine lv_bipush (v := 7) hx hb dX12_init_37 (by decide) ?_
  have hS0 := hS
  refine hw_newa hx hb 46 (atype := .int) (hts (.arrayClass .int) (by decide +kernel)) (ty := .int) rfl (t := 0) rfl (fun _ h9 => h9) hK hH hS (n := 7) (N := 7) (7, .inl (fun _ => 0)) (fun _ => rfl) (show hw_ok D.2.1 G38 46 _ from ⟨_, rfl⟩) (by decide) (by decide) (by decide) (Nat.le_of_ble_eq_true rfl) (Nat.le_of_ble_eq_true rfl) dX12_init_39 (fun q51 G52 H hH m53 m54 k55 l56 e57 v58 oq hz hS => ?_)
  have w59 : s.heap.size ≤ q51 := by have := hS0.1; omega
  have g60 : ∀ x, x < s.heap.size → G52 x = G x := fun x h9 => (l56 x (Nat.lt_of_lt_of_le h9 hS0.1)).trans (g46 x h9)
  have va := va_at.kept va (oq _ (hw_lt va))
  have v8 := va_at.kept v8 (oq _ (hw_lt v8))
  have v19 := va_at.kept v19 (oq _ (hw_lt v19))
  have k61 := hw_kg2 m54 k47 (by decide)
  have k62 := hw_kg m53 k48 (by decide) (by decide)
  have k63 := hw_kg m53 k49 (by decide) (by decide)
  have k64 := hw_kg m53 k50 (by decide) (by decide)
  have k65 := hw_kg m53 k41 (by decide) (by decide)
  refine hw_putF (v := .ref q51) (fs' := [.ref q1, .int 0, .ref q12, .int 0, .ref q24, .ref q37, .ref q51, .int 0, .null, .null, .null, .null, .int 0, .null, .int 0, .null, .int 0, .int 0, .null, .null, .int 0, .int 0, .int 0, .int 0, .int 0, .int 0, .int 0, .null, .null, .null, .null, .null, .null, .null, .null, .null, .null, .null, .null, .null, .null, .null, .null, .null, .null]) hx hb ff_23_11 hnm hK hH va (Nat.le_of_ble_eq_true rfl) rfl rfl rfl (fun _ => by rw [k61]; exact (show hw_ok D.2.1 G52 109 _ from ⟨_, rfl⟩)) hS (hw_AWi2 g60 k61 (by decide)) dX12_init_41 (fun H locs hH va oq hz hS => ?_)
  have v8 := va_at.kept v8 (oq _ (hw_ne k62 k61 (by decide)))
  have v19 := va_at.kept v19 (oq _ (hw_ne k63 k61 (by decide)))
  refine lv_aload_n hx hb dX12_init_44 rfl (lv_at hl 0 rfl) ?_
  refine lv_bipush (v := 7) hx hb dX12_init_45 (by decide) ?_
  have hS0 := hS
  refine hw_newa hx hb 48 (atype := .int) (hts (.arrayClass .int) (by decide +kernel)) (ty := .int) rfl (t := 0) rfl (fun _ h9 => h9) hK hH hS (n := 7) (N := 7) (7, .inl (fun _ => 0)) (fun _ => rfl) (show hw_ok D.2.1 G52 48 _ from ⟨_, rfl⟩) (by decide) (by decide) (by decide) (Nat.le_of_ble_eq_true rfl) (Nat.le_of_ble_eq_true rfl) dX12_init_47 (fun q66 G67 H hH m68 m69 k70 l71 e72 v73 oq hz hS => ?_)
  have w74 : s.heap.size ≤ q66 := by have := hS0.1; omega
  have g75 : ∀ x, x < s.heap.size → G67 x = G x := fun x h9 => (l71 x (Nat.lt_of_lt_of_le h9 hS0.1)).trans (g60 x h9)
  have va := va_at.kept va (oq _ (hw_lt va))
  have v8 := va_at.kept v8 (oq _ (hw_lt v8))
  have v19 := va_at.kept v19 (oq _ (hw_lt v19))
  have k76 := hw_kg2 m69 k61 (by decide)
  have k77 := hw_kg m68 k62 (by decide) (by decide)
  have k78 := hw_kg m68 k63 (by decide) (by decide)
  have k79 := hw_kg m68 k64 (by decide) (by decide)
  have k80 := hw_kg m68 k65 (by decide) (by decide)
  have k81 := hw_kg m68 k55 (by decide) (by decide)
  refine hw_putF (v := .ref q66) (fs' := [.ref q1, .int 0, .ref q12, .int 0, .ref q24, .ref q37, .ref q51, .int 0, .ref q66, .null, .null, .null, .int 0, .null, .int 0, .null, .int 0, .int 0, .null, .null, .int 0, .int 0, .int 0, .int 0, .int 0, .int 0, .int 0, .null, .null, .null, .null, .null, .null, .null, .null, .null, .null, .null, .null, .null, .null, .null, .null, .null, .null]) hx hb ff_26_11 hnm hK hH va (Nat.le_of_ble_eq_true rfl) rfl rfl rfl (fun _ => by rw [k76]; exact (show hw_ok D.2.1 G67 109 _ from ⟨_, rfl⟩)) hS (hw_AWi2 g75 k76 (by decide)) dX12_init_49 (fun H locs hH va oq hz hS => ?_)
  have v8 := va_at.kept v8 (oq _ (hw_ne k77 k76 (by decide)))
  have v19 := va_at.kept v19 (oq _ (hw_ne k78 k76 (by decide)))
  refine lv_aload_n hx hb dX12_init_52 rfl (lv_at hl 0 rfl) ?_
  refine lv_bipush (v := 7) hx hb dX12_init_53 (by decide) ?_
  have hS0 := hS
  refine hw_newa hx hb 49 (atype := .int) (hts (.arrayClass .int) (by decide +kernel)) (ty := .int) rfl (t := 0) rfl (fun _ h9 => h9) hK hH hS (n := 7) (N := 7) (7, .inl (fun _ => 0)) (fun _ => rfl) (show hw_ok D.2.1 G67 49 _ from ⟨_, rfl⟩) (by decide) (by decide) (by decide) (Nat.le_of_ble_eq_true rfl) (Nat.le_of_ble_eq_true rfl) dX12_init_55 (fun q82 G83 H hH m84 m85 k86 l87 e88 v89 oq hz hS => ?_)
  have w90 : s.heap.size ≤ q82 := by have := hS0.1; omega
  have g91 : ∀ x, x < s.heap.size → G83 x = G x := fun x h9 => (l87 x (Nat.lt_of_lt_of_le h9 hS0.1)).trans (g75 x h9)
  have va := va_at.kept va (oq _ (hw_lt va))
  have v8 := va_at.kept v8 (oq _ (hw_lt v8))
  have v19 := va_at.kept v19 (oq _ (hw_lt v19))
  have k92 := hw_kg2 m85 k76 (by decide)
  have k93 := hw_kg m84 k77 (by decide) (by decide)
  have k94 := hw_kg m84 k78 (by decide) (by decide)
  have k95 := hw_kg m84 k79 (by decide) (by decide)
  have k96 := hw_kg m84 k80 (by decide) (by decide)
  have k97 := hw_kg m84 k81 (by decide) (by decide)
  have k98 := hw_kg m84 k70 (by decide) (by decide)
  refine hw_putF (v := .ref q82) (fs' := [.ref q1, .int 0, .ref q12, .int 0, .ref q24, .ref q37, .ref q51, .int 0, .ref q66, .ref q82, .null, .null, .int 0, .null, .int 0, .null, .int 0, .int 0, .null, .null, .int 0, .int 0, .int 0, .int 0, .int 0, .int 0, .int 0, .null, .null, .null, .null, .null, .null, .null, .null, .null, .null, .null, .null, .null, .null, .null, .null, .null, .null]) hx hb ff_29_11 hnm hK hH va (Nat.le_of_ble_eq_true rfl) rfl rfl rfl (fun _ => by rw [k92]; exact (show hw_ok D.2.1 G83 109 _ from ⟨_, rfl⟩)) hS (hw_AWi2 g91 k92 (by decide)) dX12_init_57 (fun H locs hH va oq hz hS => ?_)
  have v8 := va_at.kept v8 (oq _ (hw_ne k93 k92 (by decide)))
  have v19 := va_at.kept v19 (oq _ (hw_ne k94 k92 (by decide)))
  refine lv_aload_n hx hb dX12_init_60 rfl (lv_at hl 0 rfl) ?_
  refine lv_bipush (v := 7) hx hb dX12_init_61 (by decide) ?_
  have hS0 := hS
  refine hw_newa hx hb 50 (atype := .int) (hts (.arrayClass .int) (by decide +kernel)) (ty := .int) rfl (t := 0) rfl (fun _ h9 => h9) hK hH hS (n := 7) (N := 7) (7, .inl (fun _ => 0)) (fun _ => rfl) (show hw_ok D.2.1 G83 50 _ from ⟨_, rfl⟩) (by decide) (by decide) (by decide) (Nat.le_of_ble_eq_true rfl) (Nat.le_of_ble_eq_true rfl) dX12_init_63 (fun q99 G100 H hH m101 m102 k103 l104 e105 v106 oq hz hS => ?_)
  have w107 : s.heap.size ≤ q99 := by have := hS0.1; omega
  have g108 : ∀ x, x < s.heap.size → G100 x = G x := fun x h9 => (l104 x (Nat.lt_of_lt_of_le h9 hS0.1)).trans (g91 x h9)
  have va := va_at.kept va (oq _ (hw_lt va))
  have v8 := va_at.kept v8 (oq _ (hw_lt v8))
  have v19 := va_at.kept v19 (oq _ (hw_lt v19))
  have k109 := hw_kg2 m102 k92 (by decide)
  have k110 := hw_kg m101 k93 (by decide) (by decide)
  have k111 := hw_kg m101 k94 (by decide) (by decide)
  have k112 := hw_kg m101 k95 (by decide) (by decide)
  have k113 := hw_kg m101 k96 (by decide) (by decide)
  have k114 := hw_kg m101 k97 (by decide) (by decide)
  have k115 := hw_kg m101 k98 (by decide) (by decide)
  have k116 := hw_kg m101 k86 (by decide) (by decide)
  refine hw_putF (v := .ref q99) (fs' := [.ref q1, .int 0, .ref q12, .int 0, .ref q24, .ref q37, .ref q51, .int 0, .ref q66, .ref q82, .ref q99, .null, .int 0, .null, .int 0, .null, .int 0, .int 0, .null, .null, .int 0, .int 0, .int 0, .int 0, .int 0, .int 0, .int 0, .null, .null, .null, .null, .null, .null, .null, .null, .null, .null, .null, .null, .null, .null, .null, .null, .null, .null]) hx hb ff_32_11 hnm hK hH va (Nat.le_of_ble_eq_true rfl) rfl rfl rfl (fun _ => by rw [k109]; exact (show hw_ok D.2.1 G100 109 _ from ⟨_, rfl⟩)) hS (hw_AWi2 g108 k109 (by decide)) dX12_init_65 (fun H locs hH va oq hz hS => ?_)
  have v8 := va_at.kept v8 (oq _ (hw_ne k110 k109 (by decide)))
  have v19 := va_at.kept v19 (oq _ (hw_ne k111 k109 (by decide)))
  refine lv_aload_n hx hb dX12_init_68 rfl (lv_at hl 0 rfl) ?_
  refine lv_bipush (v := 7) hx hb dX12_init_69 (by decide) ?_
  have hS0 := hS
  refine hw_newa hx hb 51 (atype := .int) (hts (.arrayClass .int) (by decide +kernel)) (ty := .int) rfl (t := 0) rfl (fun _ h9 => h9) hK hH hS (n := 7) (N := 7) (7, .inl (fun _ => 0)) (fun _ => rfl) (show hw_ok D.2.1 G100 51 _ from ⟨_, rfl⟩) (by decide) (by decide) (by decide) (Nat.le_of_ble_eq_true rfl) (Nat.le_of_ble_eq_true rfl) dX12_init_71 (fun q117 G118 H hH m119 m120 k121 l122 e123 v124 oq hz hS => ?_)
  have w125 : s.heap.size ≤ q117 := by have := hS0.1; omega
  have g126 : ∀ x, x < s.heap.size → G118 x = G x := fun x h9 => (l122 x (Nat.lt_of_lt_of_le h9 hS0.1)).trans (g108 x h9)
  have va := va_at.kept va (oq _ (hw_lt va))
  have v8 := va_at.kept v8 (oq _ (hw_lt v8))
  have v19 := va_at.kept v19 (oq _ (hw_lt v19))
  have k127 := hw_kg2 m120 k109 (by decide)
  have k128 := hw_kg m119 k110 (by decide) (by decide)
  have k129 := hw_kg m119 k111 (by decide) (by decide)
  have k130 := hw_kg m119 k112 (by decide) (by decide)
  have k131 := hw_kg m119 k113 (by decide) (by decide)
  have k132 := hw_kg m119 k114 (by decide) (by decide)
  have k133 := hw_kg m119 k115 (by decide) (by decide)
  have k134 := hw_kg m119 k116 (by decide) (by decide)
  have k135 := hw_kg m119 k103 (by decide) (by decide)
  refine hw_putF (v := .ref q117) (fs' := [.ref q1, .int 0, .ref q12, .int 0, .ref q24, .ref q37, .ref q51, .int 0, .ref q66, .ref q82, .ref q99, .ref q117, .int 0, .null, .int 0, .null, .int 0, .int 0, .null, .null, .int 0, .int 0, .int 0, .int 0, .int 0, .int 0, .int 0, .null, .null, .null, .null, .null, .null, .null, .null, .null, .null, .null, .null, .null, .null, .null, .null, .null, .null]) hx hb ff_35_11 hnm hK hH va (Nat.le_of_ble_eq_true rfl) rfl rfl rfl (fun _ => by rw [k127]; exact (show hw_ok D.2.1 G118 109 _ from ⟨_, rfl⟩)) hS (hw_AWi2 g126 k127 (by decide)) dX12_init_73 (fun H locs hH va oq hz hS => ?_)
  have v8 := va_at.kept v8 (oq _ (hw_ne k128 k127 (by decide)))
  have v19 := va_at.kept v19 (oq _ (hw_ne k129 k127 (by decide)))
  refine lv_aload_n hx hb dX12_init_76 rfl (lv_at hl 0 rfl) ?_
  refine lv_iconst (v := 3) hx hb dX12_init_77 (by decide) ?_
  have hS0 := hS
  refine hw_newa hx hb 53 (atype := .int) (hts (.arrayClass .int) (by decide +kernel)) (ty := .int) rfl (t := 0) rfl (fun _ h9 => h9) hK hH hS (n := 3) (N := 3) (3, .inl (fun _ => 0)) (fun _ => rfl) (show hw_ok D.2.1 G118 53 _ from ⟨_, rfl⟩) (by decide) (by decide) (by decide) (Nat.le_of_ble_eq_true rfl) (Nat.le_of_ble_eq_true rfl) dX12_init_78 (fun q136 G137 H hH m138 m139 k140 l141 e142 v143 oq hz hS => ?_)
  have w144 : s.heap.size ≤ q136 := by have := hS0.1; omega
  have g145 : ∀ x, x < s.heap.size → G137 x = G x := fun x h9 => (l141 x (Nat.lt_of_lt_of_le h9 hS0.1)).trans (g126 x h9)
  have va := va_at.kept va (oq _ (hw_lt va))
  have v8 := va_at.kept v8 (oq _ (hw_lt v8))
  have v19 := va_at.kept v19 (oq _ (hw_lt v19))
  have k146 := hw_kg2 m139 k127 (by decide)
  have k147 := hw_kg m138 k128 (by decide) (by decide)
  have k148 := hw_kg m138 k129 (by decide) (by decide)
  have k149 := hw_kg m138 k130 (by decide) (by decide)
  have k150 := hw_kg m138 k131 (by decide) (by decide)
  have k151 := hw_kg m138 k132 (by decide) (by decide)
  have k152 := hw_kg m138 k133 (by decide) (by decide)
  have k153 := hw_kg m138 k134 (by decide) (by decide)
  have k154 := hw_kg m138 k135 (by decide) (by decide)
  have k155 := hw_kg m138 k121 (by decide) (by decide)
  refine hw_putF (v := .ref q136) (fs' := [.ref q1, .int 0, .ref q12, .int 0, .ref q24, .ref q37, .ref q51, .int 0, .ref q66, .ref q82, .ref q99, .ref q117, .int 0, .ref q136, .int 0, .null, .int 0, .int 0, .null, .null, .int 0, .int 0, .int 0, .int 0, .int 0, .int 0, .int 0, .null, .null, .null, .null, .null, .null, .null, .null, .null, .null, .null, .null, .null, .null, .null, .null, .null, .null]) hx hb ff_38_11 hnm hK hH va (Nat.le_of_ble_eq_true rfl) rfl rfl rfl (fun _ => by rw [k146]; exact (show hw_ok D.2.1 G137 109 _ from ⟨_, rfl⟩)) hS (hw_AWi2 g145 k146 (by decide)) dX12_init_80 (fun H locs hH va oq hz hS => ?_)
  have v8 := va_at.kept v8 (oq _ (hw_ne k147 k146 (by decide)))
  have v19 := va_at.kept v19 (oq _ (hw_ne k148 k146 (by decide)))
  refine lv_aload_n hx hb dX12_init_83 rfl (lv_at hl 0 rfl) ?_
  refine lv_bipush (v := 60) hx hb dX12_init_84 (by decide) ?_
  refine hw_put (v := .int 60) (fs' := [.ref q1, .int 0, .ref q12, .int 0, .ref q24, .ref q37, .ref q51, .int 0, .ref q66, .ref q82, .ref q99, .ref q117, .int 0, .ref q136, .int 60, .null, .int 0, .int 0, .null, .null, .int 0, .int 0, .int 0, .int 0, .int 0, .int 0, .int 0, .null, .null, .null, .null, .null, .null, .null, .null, .null, .null, .null, .null, .null, .null, .null, .null, .null, .null]) hx hb fp_41_11 hK hH va (Nat.le_of_ble_eq_true rfl) rfl rfl rfl (fun _ => by rw [k146]; exact (show hw_ok D.2.1 G137 109 _ from ⟨_, rfl⟩)) hS (hw_AWi2 g145 k146 (by decide)) dX12_init_86 (fun H locs hH va oq hz hS => ?_)
  have v8 := va_at.kept v8 (oq _ (hw_ne k147 k146 (by decide)))
  have v19 := va_at.kept v19 (oq _ (hw_ne k148 k146 (by decide)))
  refine lv_aload_n hx hb dX12_init_89 rfl (lv_at hl 0 rfl) ?_
  refine lv_sipush (v := 200) hx hb dX12_init_90 (by decide) ?_
  have hS0 := hS
  refine hw_newa hx hb 55 (atype := .int) (hts (.arrayClass .int) (by decide +kernel)) (ty := .int) rfl (t := 0) rfl (fun _ h9 => h9) hK hH hS (n := 200) (N := 200) (200, .inl (fun _ => 0)) (fun _ => rfl) (show hw_ok D.2.1 G137 55 _ from ⟨_, rfl⟩) (by decide) (by decide) (by decide) (Nat.le_of_ble_eq_true rfl) (Nat.le_of_ble_eq_true rfl) dX12_init_93 (fun q156 G157 H hH m158 m159 k160 l161 e162 v163 oq hz hS => ?_)
  have w164 : s.heap.size ≤ q156 := by have := hS0.1; omega
  have g165 : ∀ x, x < s.heap.size → G157 x = G x := fun x h9 => (l161 x (Nat.lt_of_lt_of_le h9 hS0.1)).trans (g145 x h9)
  have va := va_at.kept va (oq _ (hw_lt va))
  have v8 := va_at.kept v8 (oq _ (hw_lt v8))
  have v19 := va_at.kept v19 (oq _ (hw_lt v19))
  have k166 := hw_kg2 m159 k146 (by decide)
  have k167 := hw_kg m158 k147 (by decide) (by decide)
  have k168 := hw_kg m158 k148 (by decide) (by decide)
  have k169 := hw_kg m158 k149 (by decide) (by decide)
  have k170 := hw_kg m158 k150 (by decide) (by decide)
  have k171 := hw_kg m158 k151 (by decide) (by decide)
  have k172 := hw_kg m158 k152 (by decide) (by decide)
  have k173 := hw_kg m158 k153 (by decide) (by decide)
  have k174 := hw_kg m158 k154 (by decide) (by decide)
  have k175 := hw_kg m158 k155 (by decide) (by decide)
  have k176 := hw_kg m158 k140 (by decide) (by decide)
  refine hw_putF (v := .ref q156) (fs' := [.ref q1, .int 0, .ref q12, .int 0, .ref q24, .ref q37, .ref q51, .int 0, .ref q66, .ref q82, .ref q99, .ref q117, .int 0, .ref q136, .int 60, .ref q156, .int 0, .int 0, .null, .null, .int 0, .int 0, .int 0, .int 0, .int 0, .int 0, .int 0, .null, .null, .null, .null, .null, .null, .null, .null, .null, .null, .null, .null, .null, .null, .null, .null, .null, .null]) hx hb ff_45_11 hnm hK hH va (Nat.le_of_ble_eq_true rfl) rfl rfl rfl (fun _ => by rw [k166]; exact (show hw_ok D.2.1 G157 109 _ from ⟨_, rfl⟩)) hS (hw_AWi2 g165 k166 (by decide)) dX12_init_95 (fun H locs hH va oq hz hS => ?_)
  have v8 := va_at.kept v8 (oq _ (hw_ne k167 k166 (by decide)))
  have v19 := va_at.kept v19 (oq _ (hw_ne k168 k166 (by decide)))
  refine lv_aload_n hx hb dX12_init_98 rfl (lv_at hl 0 rfl) ?_
  refine lv_bipush (v := 6) hx hb dX12_init_99 (by decide) ?_
  have hS0 := hS
  refine hw_newa hx hb 58 (atype := .int) (hts (.arrayClass .int) (by decide +kernel)) (ty := .int) rfl (t := 0) rfl (fun _ h9 => h9) hK hH hS (n := 6) (N := 6) (6, .inl (fun _ => 0)) (fun _ => rfl) (show hw_ok D.2.1 G157 58 _ from ⟨_, rfl, fun _ _ => ⟨by decide, by decide⟩⟩) (by decide) (by decide) (by decide) (Nat.le_of_ble_eq_true rfl) (Nat.le_of_ble_eq_true rfl) dX12_init_101 (fun q177 G178 H hH m179 m180 k181 l182 e183 v184 oq hz hS => ?_)
  have w185 : s.heap.size ≤ q177 := by have := hS0.1; omega
  have g186 : ∀ x, x < s.heap.size → G178 x = G x := fun x h9 => (l182 x (Nat.lt_of_lt_of_le h9 hS0.1)).trans (g165 x h9)
  have va := va_at.kept va (oq _ (hw_lt va))
  have v8 := va_at.kept v8 (oq _ (hw_lt v8))
  have v19 := va_at.kept v19 (oq _ (hw_lt v19))
  have k187 := hw_kg2 m180 k166 (by decide)
  have k188 := hw_kg m179 k167 (by decide) (by decide)
  have k189 := hw_kg m179 k168 (by decide) (by decide)
  have k190 := hw_kg m179 k169 (by decide) (by decide)
  have k191 := hw_kg m179 k170 (by decide) (by decide)
  have k192 := hw_kg m179 k171 (by decide) (by decide)
  have k193 := hw_kg m179 k172 (by decide) (by decide)
  have k194 := hw_kg m179 k173 (by decide) (by decide)
  have k195 := hw_kg m179 k174 (by decide) (by decide)
  have k196 := hw_kg m179 k175 (by decide) (by decide)
  have k197 := hw_kg m179 k176 (by decide) (by decide)
  have k198 := hw_kg m179 k160 (by decide) (by decide)
  refine hw_putF (v := .ref q177) (fs' := [.ref q1, .int 0, .ref q12, .int 0, .ref q24, .ref q37, .ref q51, .int 0, .ref q66, .ref q82, .ref q99, .ref q117, .int 0, .ref q136, .int 60, .ref q156, .int 0, .int 0, .ref q177, .null, .int 0, .int 0, .int 0, .int 0, .int 0, .int 0, .int 0, .null, .null, .null, .null, .null, .null, .null, .null, .null, .null, .null, .null, .null, .null, .null, .null, .null, .null]) hx hb ff_48_11 hnm hK hH va (Nat.le_of_ble_eq_true rfl) rfl rfl rfl (fun _ => by rw [k187]; exact (show hw_ok D.2.1 G178 109 _ from ⟨_, rfl⟩)) hS (hw_AWi2 g186 k187 (by decide)) dX12_init_103 (fun H locs hH va oq hz hS => ?_)
  have v8 := va_at.kept v8 (oq _ (hw_ne k188 k187 (by decide)))
  have v19 := va_at.kept v19 (oq _ (hw_ne k189 k187 (by decide)))
  refine lv_aload_n hx hb dX12_init_106 rfl (lv_at hl 0 rfl) ?_
  refine lv_bipush (v := 6) hx hb dX12_init_107 (by decide) ?_
  have hS0 := hS
  refine hw_newa hx hb 59 (atype := .int) (hts (.arrayClass .int) (by decide +kernel)) (ty := .int) rfl (t := 0) rfl (fun _ h9 => h9) hK hH hS (n := 6) (N := 6) (6, .inl (fun _ => 0)) (fun _ => rfl) (show hw_ok D.2.1 G178 59 _ from ⟨_, rfl⟩) (by decide) (by decide) (by decide) (Nat.le_of_ble_eq_true rfl) (Nat.le_of_ble_eq_true rfl) dX12_init_109 (fun q199 G200 H hH m201 m202 k203 l204 e205 v206 oq hz hS => ?_)
  have w207 : s.heap.size ≤ q199 := by have := hS0.1; omega
  have g208 : ∀ x, x < s.heap.size → G200 x = G x := fun x h9 => (l204 x (Nat.lt_of_lt_of_le h9 hS0.1)).trans (g186 x h9)
  have va := va_at.kept va (oq _ (hw_lt va))
  have v8 := va_at.kept v8 (oq _ (hw_lt v8))
  have v19 := va_at.kept v19 (oq _ (hw_lt v19))
  have k209 := hw_kg2 m202 k187 (by decide)
  have k210 := hw_kg m201 k188 (by decide) (by decide)
  have k211 := hw_kg m201 k189 (by decide) (by decide)
  have k212 := hw_kg m201 k190 (by decide) (by decide)
  have k213 := hw_kg m201 k191 (by decide) (by decide)
  have k214 := hw_kg m201 k192 (by decide) (by decide)
  have k215 := hw_kg m201 k193 (by decide) (by decide)
  have k216 := hw_kg m201 k194 (by decide) (by decide)
  have k217 := hw_kg m201 k195 (by decide) (by decide)
  have k218 := hw_kg m201 k196 (by decide) (by decide)
  have k219 := hw_kg m201 k197 (by decide) (by decide)
  have k220 := hw_kg m201 k198 (by decide) (by decide)
  have k221 := hw_kg m201 k181 (by decide) (by decide)
  refine hw_putF (v := .ref q199) (fs' := [.ref q1, .int 0, .ref q12, .int 0, .ref q24, .ref q37, .ref q51, .int 0, .ref q66, .ref q82, .ref q99, .ref q117, .int 0, .ref q136, .int 60, .ref q156, .int 0, .int 0, .ref q177, .ref q199, .int 0, .int 0, .int 0, .int 0, .int 0, .int 0, .int 0, .null, .null, .null, .null, .null, .null, .null, .null, .null, .null, .null, .null, .null, .null, .null, .null, .null, .null]) hx hb ff_51_11 hnm hK hH va (Nat.le_of_ble_eq_true rfl) rfl rfl rfl (fun _ => by rw [k209]; exact (show hw_ok D.2.1 G200 109 _ from ⟨_, rfl⟩)) hS (hw_AWi2 g208 k209 (by decide)) dX12_init_111 (fun H locs hH va oq hz hS => ?_)
  have v8 := va_at.kept v8 (oq _ (hw_ne k210 k209 (by decide)))
  have v19 := va_at.kept v19 (oq _ (hw_ne k211 k209 (by decide)))
  refine lv_aload_n hx hb dX12_init_114 rfl (lv_at hl 0 rfl) ?_
  refine lv_iconst (v := 4) hx hb dX12_init_115 (by decide) ?_
  have hS0 := hS
  refine hw_newa hx hb 67 (atype := .int) (hts (.arrayClass .int) (by decide +kernel)) (ty := .int) rfl (t := 0) rfl (fun _ h9 => h9) hK hH hS (n := 4) (N := 4) (4, .inl (fun _ => 0)) (fun _ => rfl) (show hw_ok D.2.1 G200 67 _ from ⟨_, rfl⟩) (by decide) (by decide) (by decide) (Nat.le_of_ble_eq_true rfl) (Nat.le_of_ble_eq_true rfl) dX12_init_116 (fun q222 G223 H hH m224 m225 k226 l227 e228 v229 oq hz hS => ?_)
  have w230 : s.heap.size ≤ q222 := by have := hS0.1; omega
  have g231 : ∀ x, x < s.heap.size → G223 x = G x := fun x h9 => (l227 x (Nat.lt_of_lt_of_le h9 hS0.1)).trans (g208 x h9)
  have va := va_at.kept va (oq _ (hw_lt va))
  have v8 := va_at.kept v8 (oq _ (hw_lt v8))
  have v19 := va_at.kept v19 (oq _ (hw_lt v19))
  have k232 := hw_kg2 m225 k209 (by decide)
  have k233 := hw_kg m224 k210 (by decide) (by decide)
  have k234 := hw_kg m224 k211 (by decide) (by decide)
  have k235 := hw_kg m224 k212 (by decide) (by decide)
  have k236 := hw_kg m224 k213 (by decide) (by decide)
  have k237 := hw_kg m224 k214 (by decide) (by decide)
  have k238 := hw_kg m224 k215 (by decide) (by decide)
  have k239 := hw_kg m224 k216 (by decide) (by decide)
  have k240 := hw_kg m224 k217 (by decide) (by decide)
  have k241 := hw_kg m224 k218 (by decide) (by decide)
  have k242 := hw_kg m224 k219 (by decide) (by decide)
  have k243 := hw_kg m224 k220 (by decide) (by decide)
  have k244 := hw_kg m224 k221 (by decide) (by decide)
  have k245 := hw_kg m224 k203 (by decide) (by decide)
  refine hw_putF (v := .ref q222) (fs' := [.ref q1, .int 0, .ref q12, .int 0, .ref q24, .ref q37, .ref q51, .int 0, .ref q66, .ref q82, .ref q99, .ref q117, .int 0, .ref q136, .int 60, .ref q156, .int 0, .int 0, .ref q177, .ref q199, .int 0, .int 0, .int 0, .int 0, .int 0, .int 0, .int 0, .ref q222, .null, .null, .null, .null, .null, .null, .null, .null, .null, .null, .null, .null, .null, .null, .null, .null, .null]) hx hb ff_54_11 hnm hK hH va (Nat.le_of_ble_eq_true rfl) rfl rfl rfl (fun _ => by rw [k232]; exact (show hw_ok D.2.1 G223 109 _ from ⟨_, rfl⟩)) hS (hw_AWi2 g231 k232 (by decide)) dX12_init_118 (fun H locs hH va oq hz hS => ?_)
  have v8 := va_at.kept v8 (oq _ (hw_ne k233 k232 (by decide)))
  have v19 := va_at.kept v19 (oq _ (hw_ne k234 k232 (by decide)))
  refine lv_aload_n hx hb dX12_init_121 rfl (lv_at hl 0 rfl) ?_
  refine lv_iconst (v := 5) hx hb dX12_init_122 (by decide) ?_
  have hS0 := hS
  refine hw_newa hx hb 68 (atype := .int) (hts (.arrayClass .int) (by decide +kernel)) (ty := .int) rfl (t := 0) rfl (fun _ h9 => h9) hK hH hS (n := 5) (N := 5) (5, .inl (fun _ => 0)) (fun _ => rfl) (show hw_ok D.2.1 G223 68 _ from ⟨_, rfl⟩) (by decide) (by decide) (by decide) (Nat.le_of_ble_eq_true rfl) (Nat.le_of_ble_eq_true rfl) dX12_init_123 (fun q246 G247 H hH m248 m249 k250 l251 e252 v253 oq hz hS => ?_)
  have w254 : s.heap.size ≤ q246 := by have := hS0.1; omega
  have g255 : ∀ x, x < s.heap.size → G247 x = G x := fun x h9 => (l251 x (Nat.lt_of_lt_of_le h9 hS0.1)).trans (g231 x h9)
  have va := va_at.kept va (oq _ (hw_lt va))
  have v8 := va_at.kept v8 (oq _ (hw_lt v8))
  have v19 := va_at.kept v19 (oq _ (hw_lt v19))
  have k256 := hw_kg2 m249 k232 (by decide)
  have k257 := hw_kg m248 k233 (by decide) (by decide)
  have k258 := hw_kg m248 k234 (by decide) (by decide)
  have k259 := hw_kg m248 k235 (by decide) (by decide)
  have k260 := hw_kg m248 k236 (by decide) (by decide)
  have k261 := hw_kg m248 k237 (by decide) (by decide)
  have k262 := hw_kg m248 k238 (by decide) (by decide)
  have k263 := hw_kg m248 k239 (by decide) (by decide)
  have k264 := hw_kg m248 k240 (by decide) (by decide)
  have k265 := hw_kg m248 k241 (by decide) (by decide)
  have k266 := hw_kg m248 k242 (by decide) (by decide)
  have k267 := hw_kg m248 k243 (by decide) (by decide)
  have k268 := hw_kg m248 k244 (by decide) (by decide)
  have k269 := hw_kg m248 k245 (by decide) (by decide)
  have k270 := hw_kg m248 k226 (by decide) (by decide)
  refine lv_dup hx hb dX12_init_125 rfl ?_
  refine lv_iconst (v := 0) hx hb dX12_init_126 (by decide) ?_
  refine lv_bipush (v := 98) hx hb dX12_init_127 (by decide) ?_
  obtain ⟨f271, v272⟩ := hH.a68 k250
  refine hw_iast hx hb hK hH v272 (hw_in (x := 0) (by decide) (by decide)) (fun _ => by rw [k250]; exact ⟨_, rfl⟩) hS (Or.inr w254) dX12_init_129 (fun H locs hH v272 oq hz hS => ?_)
  have va := va_at.kept va (oq _ (hw_ne k256 k250 (by decide)))
  have v8 := va_at.kept v8 (oq _ (hw_ne k257 k250 (by decide)))
  have v19 := va_at.kept v19 (oq _ (hw_ne k258 k250 (by decide)))
  refine lv_dup hx hb dX12_init_130 rfl ?_
  refine lv_iconst (v := 1) hx hb dX12_init_131 (by decide) ?_
  refine lv_bipush (v := 114) hx hb dX12_init_132 (by decide) ?_
  obtain ⟨f274, v275⟩ := hH.a68 k250
  refine hw_iast hx hb hK hH v275 (hw_in (x := 1) (by decide) (by decide)) (fun _ => by rw [k250]; exact ⟨_, rfl⟩) hS (Or.inr w254) dX12_init_134 (fun H locs hH v275 oq hz hS => ?_)
  have va := va_at.kept va (oq _ (hw_ne k256 k250 (by decide)))
  have v8 := va_at.kept v8 (oq _ (hw_ne k257 k250 (by decide)))
  have v19 := va_at.kept v19 (oq _ (hw_ne k258 k250 (by decide)))
  refine lv_dup hx hb dX12_init_135 rfl ?_
  refine lv_iconst (v := 2) hx hb dX12_init_136 (by decide) ?_
  refine lv_bipush (v := 97) hx hb dX12_init_137 (by decide) ?_
  obtain ⟨f277, v278⟩ := hH.a68 k250
  refine hw_iast hx hb hK hH v278 (hw_in (x := 2) (by decide) (by decide)) (fun _ => by rw [k250]; exact ⟨_, rfl⟩) hS (Or.inr w254) dX12_init_139 (fun H locs hH v278 oq hz hS => ?_)
  have va := va_at.kept va (oq _ (hw_ne k256 k250 (by decide)))
  have v8 := va_at.kept v8 (oq _ (hw_ne k257 k250 (by decide)))
  have v19 := va_at.kept v19 (oq _ (hw_ne k258 k250 (by decide)))
  refine lv_dup hx hb dX12_init_140 rfl ?_
  refine lv_iconst (v := 3) hx hb dX12_init_141 (by decide) ?_
  refine lv_bipush (v := 115) hx hb dX12_init_142 (by decide) ?_
  obtain ⟨f280, v281⟩ := hH.a68 k250
  refine hw_iast hx hb hK hH v281 (hw_in (x := 3) (by decide) (by decide)) (fun _ => by rw [k250]; exact ⟨_, rfl⟩) hS (Or.inr w254) dX12_init_144 (fun H locs hH v281 oq hz hS => ?_)
  have va := va_at.kept va (oq _ (hw_ne k256 k250 (by decide)))
  have v8 := va_at.kept v8 (oq _ (hw_ne k257 k250 (by decide)))
  have v19 := va_at.kept v19 (oq _ (hw_ne k258 k250 (by decide)))
  refine lv_dup hx hb dX12_init_145 rfl ?_
  refine lv_iconst (v := 4) hx hb dX12_init_146 (by decide) ?_
  refine lv_bipush (v := 115) hx hb dX12_init_147 (by decide) ?_
  obtain ⟨f283, v284⟩ := hH.a68 k250
  refine hw_iast hx hb hK hH v284 (hw_in (x := 4) (by decide) (by decide)) (fun _ => by rw [k250]; exact ⟨_, rfl⟩) hS (Or.inr w254) dX12_init_149 (fun H locs hH v284 oq hz hS => ?_)
  have va := va_at.kept va (oq _ (hw_ne k256 k250 (by decide)))
  have v8 := va_at.kept v8 (oq _ (hw_ne k257 k250 (by decide)))
  have v19 := va_at.kept v19 (oq _ (hw_ne k258 k250 (by decide)))
  refine hw_putF (v := .ref q246) (fs' := [.ref q1, .int 0, .ref q12, .int 0, .ref q24, .ref q37, .ref q51, .int 0, .ref q66, .ref q82, .ref q99, .ref q117, .int 0, .ref q136, .int 60, .ref q156, .int 0, .int 0, .ref q177, .ref q199, .int 0, .int 0, .int 0, .int 0, .int 0, .int 0, .int 0, .ref q222, .ref q246, .null, .null, .null, .null, .null, .null, .null, .null, .null, .null, .null, .null, .null, .null, .null, .null]) hx hb ff_57_11 hnm hK hH va (Nat.le_of_ble_eq_true rfl) rfl rfl rfl (fun _ => by rw [k256]; exact (show hw_ok D.2.1 G247 109 _ from ⟨_, rfl⟩)) hS (hw_AWi2 g255 k256 (by decide)) dX12_init_150 (fun H locs hH va oq hz hS => ?_)
  have v8 := va_at.kept v8 (oq _ (hw_ne k257 k256 (by decide)))
  have v19 := va_at.kept v19 (oq _ (hw_ne k258 k256 (by decide)))
  refine lv_aload_n hx hb dX12_init_153 rfl (lv_at hl 0 rfl) ?_
  refine lv_iconst (v := 5) hx hb dX12_init_154 (by decide) ?_
  have hS0 := hS
  refine hw_newa hx hb 69 (atype := .int) (hts (.arrayClass .int) (by decide +kernel)) (ty := .int) rfl (t := 0) rfl (fun _ h9 => h9) hK hH hS (n := 5) (N := 5) (5, .inl (fun _ => 0)) (fun _ => rfl) (show hw_ok D.2.1 G247 69 _ from ⟨_, rfl⟩) (by decide) (by decide) (by decide) (Nat.le_of_ble_eq_true rfl) (Nat.le_of_ble_eq_true rfl) dX12_init_155 (fun q286 G287 H hH m288 m289 k290 l291 e292 v293 oq hz hS => ?_)
  have w294 : s.heap.size ≤ q286 := by have := hS0.1; omega
  have g295 : ∀ x, x < s.heap.size → G287 x = G x := fun x h9 => (l291 x (Nat.lt_of_lt_of_le h9 hS0.1)).trans (g255 x h9)
  have va := va_at.kept va (oq _ (hw_lt va))
  have v8 := va_at.kept v8 (oq _ (hw_lt v8))
  have v19 := va_at.kept v19 (oq _ (hw_lt v19))
  have k296 := hw_kg2 m289 k256 (by decide)
  have k297 := hw_kg m288 k257 (by decide) (by decide)
  have k298 := hw_kg m288 k258 (by decide) (by decide)
  have k299 := hw_kg m288 k259 (by decide) (by decide)
  have k300 := hw_kg m288 k260 (by decide) (by decide)
  have k301 := hw_kg m288 k261 (by decide) (by decide)
  have k302 := hw_kg m288 k262 (by decide) (by decide)
  have k303 := hw_kg m288 k263 (by decide) (by decide)
  have k304 := hw_kg m288 k264 (by decide) (by decide)
  have k305 := hw_kg m288 k265 (by decide) (by decide)
  have k306 := hw_kg m288 k266 (by decide) (by decide)
  have k307 := hw_kg m288 k267 (by decide) (by decide)
  have k308 := hw_kg m288 k268 (by decide) (by decide)
  have k309 := hw_kg m288 k269 (by decide) (by decide)
  have k310 := hw_kg m288 k270 (by decide) (by decide)
  have k311 := hw_kg m288 k250 (by decide) (by decide)
  refine lv_dup hx hb dX12_init_157 rfl ?_
  refine lv_iconst (v := 0) hx hb dX12_init_158 (by decide) ?_
  refine lv_bipush (v := 114) hx hb dX12_init_159 (by decide) ?_
  obtain ⟨f312, v313⟩ := hH.a69 k290
  refine hw_iast hx hb hK hH v313 (hw_in (x := 0) (by decide) (by decide)) (fun _ => by rw [k290]; exact ⟨_, rfl⟩) hS (Or.inr w294) dX12_init_161 (fun H locs hH v313 oq hz hS => ?_)
  have va := va_at.kept va (oq _ (hw_ne k296 k290 (by decide)))
  have v8 := va_at.kept v8 (oq _ (hw_ne k297 k290 (by decide)))
  have v19 := va_at.kept v19 (oq _ (hw_ne k298 k290 (by decide)))
  refine lv_dup hx hb dX12_init_162 rfl ?_
  refine lv_iconst (v := 1) hx hb dX12_init_163 (by decide) ?_
  refine lv_bipush (v := 117) hx hb dX12_init_164 (by decide) ?_
  obtain ⟨f315, v316⟩ := hH.a69 k290
  refine hw_iast hx hb hK hH v316 (hw_in (x := 1) (by decide) (by decide)) (fun _ => by rw [k290]; exact ⟨_, rfl⟩) hS (Or.inr w294) dX12_init_166 (fun H locs hH v316 oq hz hS => ?_)
  have va := va_at.kept va (oq _ (hw_ne k296 k290 (by decide)))
  have v8 := va_at.kept v8 (oq _ (hw_ne k297 k290 (by decide)))
  have v19 := va_at.kept v19 (oq _ (hw_ne k298 k290 (by decide)))
  refine lv_dup hx hb dX12_init_167 rfl ?_
  refine lv_iconst (v := 2) hx hb dX12_init_168 (by decide) ?_
  refine lv_bipush (v := 115) hx hb dX12_init_169 (by decide) ?_
  obtain ⟨f318, v319⟩ := hH.a69 k290
  refine hw_iast hx hb hK hH v319 (hw_in (x := 2) (by decide) (by decide)) (fun _ => by rw [k290]; exact ⟨_, rfl⟩) hS (Or.inr w294) dX12_init_171 (fun H locs hH v319 oq hz hS => ?_)
  have va := va_at.kept va (oq _ (hw_ne k296 k290 (by decide)))
  have v8 := va_at.kept v8 (oq _ (hw_ne k297 k290 (by decide)))
  have v19 := va_at.kept v19 (oq _ (hw_ne k298 k290 (by decide)))
  refine lv_dup hx hb dX12_init_172 rfl ?_
  refine lv_iconst (v := 3) hx hb dX12_init_173 (by decide) ?_
  refine lv_bipush (v := 116) hx hb dX12_init_174 (by decide) ?_
  obtain ⟨f321, v322⟩ := hH.a69 k290
  refine hw_iast hx hb hK hH v322 (hw_in (x := 3) (by decide) (by decide)) (fun _ => by rw [k290]; exact ⟨_, rfl⟩) hS (Or.inr w294) dX12_init_176 (fun H locs hH v322 oq hz hS => ?_)
  have va := va_at.kept va (oq _ (hw_ne k296 k290 (by decide)))
  have v8 := va_at.kept v8 (oq _ (hw_ne k297 k290 (by decide)))
  have v19 := va_at.kept v19 (oq _ (hw_ne k298 k290 (by decide)))
  refine lv_dup hx hb dX12_init_177 rfl ?_
  refine lv_iconst (v := 4) hx hb dX12_init_178 (by decide) ?_
  refine lv_bipush (v := 121) hx hb dX12_init_179 (by decide) ?_
  obtain ⟨f324, v325⟩ := hH.a69 k290
  refine hw_iast hx hb hK hH v325 (hw_in (x := 4) (by decide) (by decide)) (fun _ => by rw [k290]; exact ⟨_, rfl⟩) hS (Or.inr w294) dX12_init_181 (fun H locs hH v325 oq hz hS => ?_)
  have va := va_at.kept va (oq _ (hw_ne k296 k290 (by decide)))
  have v8 := va_at.kept v8 (oq _ (hw_ne k297 k290 (by decide)))
  have v19 := va_at.kept v19 (oq _ (hw_ne k298 k290 (by decide)))
  refine hw_putF (v := .ref q286) (fs' := [.ref q1, .int 0, .ref q12, .int 0, .ref q24, .ref q37, .ref q51, .int 0, .ref q66, .ref q82, .ref q99, .ref q117, .int 0, .ref q136, .int 60, .ref q156, .int 0, .int 0, .ref q177, .ref q199, .int 0, .int 0, .int 0, .int 0, .int 0, .int 0, .int 0, .ref q222, .ref q246, .ref q286, .null, .null, .null, .null, .null, .null, .null, .null, .null, .null, .null, .null, .null, .null, .null]) hx hb ff_60_11 hnm hK hH va (Nat.le_of_ble_eq_true rfl) rfl rfl rfl (fun _ => by rw [k296]; exact (show hw_ok D.2.1 G287 109 _ from ⟨_, rfl⟩)) hS (hw_AWi2 g295 k296 (by decide)) dX12_init_182 (fun H locs hH va oq hz hS => ?_)
  have v8 := va_at.kept v8 (oq _ (hw_ne k297 k296 (by decide)))
  have v19 := va_at.kept v19 (oq _ (hw_ne k298 k296 (by decide)))
  refine lv_aload_n hx hb dX12_init_185 rfl (lv_at hl 0 rfl) ?_
  refine lv_bipush (v := 6) hx hb dX12_init_186 (by decide) ?_
  have hS0 := hS
  refine hw_newa hx hb 70 (atype := .int) (hts (.arrayClass .int) (by decide +kernel)) (ty := .int) rfl (t := 0) rfl (fun _ h9 => h9) hK hH hS (n := 6) (N := 6) (6, .inl (fun _ => 0)) (fun _ => rfl) (show hw_ok D.2.1 G287 70 _ from ⟨_, rfl⟩) (by decide) (by decide) (by decide) (Nat.le_of_ble_eq_true rfl) (Nat.le_of_ble_eq_true rfl) dX12_init_188 (fun q327 G328 H hH m329 m330 k331 l332 e333 v334 oq hz hS => ?_)
  have w335 : s.heap.size ≤ q327 := by have := hS0.1; omega
  have g336 : ∀ x, x < s.heap.size → G328 x = G x := fun x h9 => (l332 x (Nat.lt_of_lt_of_le h9 hS0.1)).trans (g295 x h9)
  have va := va_at.kept va (oq _ (hw_lt va))
  have v8 := va_at.kept v8 (oq _ (hw_lt v8))
  have v19 := va_at.kept v19 (oq _ (hw_lt v19))
  have k337 := hw_kg2 m330 k296 (by decide)
  have k338 := hw_kg m329 k297 (by decide) (by decide)
  have k339 := hw_kg m329 k298 (by decide) (by decide)
  have k340 := hw_kg m329 k299 (by decide) (by decide)
  have k341 := hw_kg m329 k300 (by decide) (by decide)
  have k342 := hw_kg m329 k301 (by decide) (by decide)
  have k343 := hw_kg m329 k302 (by decide) (by decide)
  have k344 := hw_kg m329 k303 (by decide) (by decide)
  have k345 := hw_kg m329 k304 (by decide) (by decide)
  have k346 := hw_kg m329 k305 (by decide) (by decide)
  have k347 := hw_kg m329 k306 (by decide) (by decide)
  have k348 := hw_kg m329 k307 (by decide) (by decide)
  have k349 := hw_kg m329 k308 (by decide) (by decide)
  have k350 := hw_kg m329 k309 (by decide) (by decide)
  have k351 := hw_kg m329 k310 (by decide) (by decide)
  have k352 := hw_kg m329 k311 (by decide) (by decide)
  have k353 := hw_kg m329 k290 (by decide) (by decide)
  refine lv_dup hx hb dX12_init_190 rfl ?_
  refine lv_iconst (v := 0) hx hb dX12_init_191 (by decide) ?_
  refine lv_bipush (v := 109) hx hb dX12_init_192 (by decide) ?_
  obtain ⟨f354, v355⟩ := hH.a70 k331
  refine hw_iast hx hb hK hH v355 (hw_in (x := 0) (by decide) (by decide)) (fun _ => by rw [k331]; exact ⟨_, rfl⟩) hS (Or.inr w335) dX12_init_194 (fun H locs hH v355 oq hz hS => ?_)
  have va := va_at.kept va (oq _ (hw_ne k337 k331 (by decide)))
  have v8 := va_at.kept v8 (oq _ (hw_ne k338 k331 (by decide)))
  have v19 := va_at.kept v19 (oq _ (hw_ne k339 k331 (by decide)))
  refine lv_dup hx hb dX12_init_195 rfl ?_
  refine lv_iconst (v := 1) hx hb dX12_init_196 (by decide) ?_
  refine lv_bipush (v := 97) hx hb dX12_init_197 (by decide) ?_
  obtain ⟨f357, v358⟩ := hH.a70 k331
  refine hw_iast hx hb hK hH v358 (hw_in (x := 1) (by decide) (by decide)) (fun _ => by rw [k331]; exact ⟨_, rfl⟩) hS (Or.inr w335) dX12_init_199 (fun H locs hH v358 oq hz hS => ?_)
  have va := va_at.kept va (oq _ (hw_ne k337 k331 (by decide)))
  have v8 := va_at.kept v8 (oq _ (hw_ne k338 k331 (by decide)))
  have v19 := va_at.kept v19 (oq _ (hw_ne k339 k331 (by decide)))
  refine lv_dup hx hb dX12_init_200 rfl ?_
  refine lv_iconst (v := 2) hx hb dX12_init_201 (by decide) ?_
  refine lv_bipush (v := 115) hx hb dX12_init_202 (by decide) ?_
  obtain ⟨f360, v361⟩ := hH.a70 k331
  refine hw_iast hx hb hK hH v361 (hw_in (x := 2) (by decide) (by decide)) (fun _ => by rw [k331]; exact ⟨_, rfl⟩) hS (Or.inr w335) dX12_init_204 (fun H locs hH v361 oq hz hS => ?_)
  have va := va_at.kept va (oq _ (hw_ne k337 k331 (by decide)))
  have v8 := va_at.kept v8 (oq _ (hw_ne k338 k331 (by decide)))
  have v19 := va_at.kept v19 (oq _ (hw_ne k339 k331 (by decide)))
  refine lv_dup hx hb dX12_init_205 rfl ?_
  refine lv_iconst (v := 3) hx hb dX12_init_206 (by decide) ?_
  refine lv_bipush (v := 116) hx hb dX12_init_207 (by decide) ?_
  obtain ⟨f363, v364⟩ := hH.a70 k331
  refine hw_iast hx hb hK hH v364 (hw_in (x := 3) (by decide) (by decide)) (fun _ => by rw [k331]; exact ⟨_, rfl⟩) hS (Or.inr w335) dX12_init_209 (fun H locs hH v364 oq hz hS => ?_)
  have va := va_at.kept va (oq _ (hw_ne k337 k331 (by decide)))
  have v8 := va_at.kept v8 (oq _ (hw_ne k338 k331 (by decide)))
  have v19 := va_at.kept v19 (oq _ (hw_ne k339 k331 (by decide)))
  refine lv_dup hx hb dX12_init_210 rfl ?_
  refine lv_iconst (v := 4) hx hb dX12_init_211 (by decide) ?_
  refine lv_bipush (v := 101) hx hb dX12_init_212 (by decide) ?_
  obtain ⟨f366, v367⟩ := hH.a70 k331
  refine hw_iast hx hb hK hH v367 (hw_in (x := 4) (by decide) (by decide)) (fun _ => by rw [k331]; exact ⟨_, rfl⟩) hS (Or.inr w335) dX12_init_214 (fun H locs hH v367 oq hz hS => ?_)
  have va := va_at.kept va (oq _ (hw_ne k337 k331 (by decide)))
  have v8 := va_at.kept v8 (oq _ (hw_ne k338 k331 (by decide)))
  have v19 := va_at.kept v19 (oq _ (hw_ne k339 k331 (by decide)))
  refine lv_dup hx hb dX12_init_215 rfl ?_
  refine lv_iconst (v := 5) hx hb dX12_init_216 (by decide) ?_
  refine lv_bipush (v := 114) hx hb dX12_init_217 (by decide) ?_
  obtain ⟨f369, v370⟩ := hH.a70 k331
  refine hw_iast hx hb hK hH v370 (hw_in (x := 5) (by decide) (by decide)) (fun _ => by rw [k331]; exact ⟨_, rfl⟩) hS (Or.inr w335) dX12_init_219 (fun H locs hH v370 oq hz hS => ?_)
  have va := va_at.kept va (oq _ (hw_ne k337 k331 (by decide)))
  have v8 := va_at.kept v8 (oq _ (hw_ne k338 k331 (by decide)))
  have v19 := va_at.kept v19 (oq _ (hw_ne k339 k331 (by decide)))
  refine hw_putF (v := .ref q327) (fs' := [.ref q1, .int 0, .ref q12, .int 0, .ref q24, .ref q37, .ref q51, .int 0, .ref q66, .ref q82, .ref q99, .ref q117, .int 0, .ref q136, .int 60, .ref q156, .int 0, .int 0, .ref q177, .ref q199, .int 0, .int 0, .int 0, .int 0, .int 0, .int 0, .int 0, .ref q222, .ref q246, .ref q286, .ref q327, .null, .null, .null, .null, .null, .null, .null, .null, .null, .null, .null, .null, .null, .null]) hx hb ff_63_11 hnm hK hH va (Nat.le_of_ble_eq_true rfl) rfl rfl rfl (fun _ => by rw [k337]; exact (show hw_ok D.2.1 G328 109 _ from ⟨_, rfl⟩)) hS (hw_AWi2 g336 k337 (by decide)) dX12_init_220 (fun H locs hH va oq hz hS => ?_)
  have v8 := va_at.kept v8 (oq _ (hw_ne k338 k337 (by decide)))
  have v19 := va_at.kept v19 (oq _ (hw_ne k339 k337 (by decide)))
  refine lv_aload_n hx hb dX12_init_223 rfl (lv_at hl 0 rfl) ?_
  refine lv_iconst (v := 5) hx hb dX12_init_224 (by decide) ?_
  have hS0 := hS
  refine hw_newa hx hb 71 (atype := .int) (hts (.arrayClass .int) (by decide +kernel)) (ty := .int) rfl (t := 0) rfl (fun _ h9 => h9) hK hH hS (n := 5) (N := 5) (5, .inl (fun _ => 0)) (fun _ => rfl) (show hw_ok D.2.1 G328 71 _ from ⟨_, rfl⟩) (by decide) (by decide) (by decide) (Nat.le_of_ble_eq_true rfl) (Nat.le_of_ble_eq_true rfl) dX12_init_225 (fun q372 G373 H hH m374 m375 k376 l377 e378 v379 oq hz hS => ?_)
  have w380 : s.heap.size ≤ q372 := by have := hS0.1; omega
  have g381 : ∀ x, x < s.heap.size → G373 x = G x := fun x h9 => (l377 x (Nat.lt_of_lt_of_le h9 hS0.1)).trans (g336 x h9)
  have va := va_at.kept va (oq _ (hw_lt va))
  have v8 := va_at.kept v8 (oq _ (hw_lt v8))
  have v19 := va_at.kept v19 (oq _ (hw_lt v19))
  have k382 := hw_kg2 m375 k337 (by decide)
  have k383 := hw_kg m374 k338 (by decide) (by decide)
  have k384 := hw_kg m374 k339 (by decide) (by decide)
  have k385 := hw_kg m374 k340 (by decide) (by decide)
  have k386 := hw_kg m374 k341 (by decide) (by decide)
  have k387 := hw_kg m374 k342 (by decide) (by decide)
  have k388 := hw_kg m374 k343 (by decide) (by decide)
  have k389 := hw_kg m374 k344 (by decide) (by decide)
  have k390 := hw_kg m374 k345 (by decide) (by decide)
  have k391 := hw_kg m374 k346 (by decide) (by decide)
  have k392 := hw_kg m374 k347 (by decide) (by decide)
  have k393 := hw_kg m374 k348 (by decide) (by decide)
  have k394 := hw_kg m374 k349 (by decide) (by decide)
  have k395 := hw_kg m374 k350 (by decide) (by decide)
  have k396 := hw_kg m374 k351 (by decide) (by decide)
  have k397 := hw_kg m374 k352 (by decide) (by decide)
  have k398 := hw_kg m374 k353 (by decide) (by decide)
  have k399 := hw_kg m374 k331 (by decide) (by decide)
  refine lv_dup hx hb dX12_init_227 rfl ?_
  refine lv_iconst (v := 0) hx hb dX12_init_228 (by decide) ?_
  refine lv_bipush (v := 102) hx hb dX12_init_229 (by decide) ?_
  obtain ⟨f400, v401⟩ := hH.a71 k376
  refine hw_iast hx hb hK hH v401 (hw_in (x := 0) (by decide) (by decide)) (fun _ => by rw [k376]; exact ⟨_, rfl⟩) hS (Or.inr w380) dX12_init_231 (fun H locs hH v401 oq hz hS => ?_)
  have va := va_at.kept va (oq _ (hw_ne k382 k376 (by decide)))
  have v8 := va_at.kept v8 (oq _ (hw_ne k383 k376 (by decide)))
  have v19 := va_at.kept v19 (oq _ (hw_ne k384 k376 (by decide)))
  refine lv_dup hx hb dX12_init_232 rfl ?_
  refine lv_iconst (v := 1) hx hb dX12_init_233 (by decide) ?_
  refine lv_bipush (v := 105) hx hb dX12_init_234 (by decide) ?_
  obtain ⟨f403, v404⟩ := hH.a71 k376
  refine hw_iast hx hb hK hH v404 (hw_in (x := 1) (by decide) (by decide)) (fun _ => by rw [k376]; exact ⟨_, rfl⟩) hS (Or.inr w380) dX12_init_236 (fun H locs hH v404 oq hz hS => ?_)
  have va := va_at.kept va (oq _ (hw_ne k382 k376 (by decide)))
  have v8 := va_at.kept v8 (oq _ (hw_ne k383 k376 (by decide)))
  have v19 := va_at.kept v19 (oq _ (hw_ne k384 k376 (by decide)))
  refine lv_dup hx hb dX12_init_237 rfl ?_
  refine lv_iconst (v := 2) hx hb dX12_init_238 (by decide) ?_
  refine lv_bipush (v := 108) hx hb dX12_init_239 (by decide) ?_
  obtain ⟨f406, v407⟩ := hH.a71 k376
  refine hw_iast hx hb hK hH v407 (hw_in (x := 2) (by decide) (by decide)) (fun _ => by rw [k376]; exact ⟨_, rfl⟩) hS (Or.inr w380) dX12_init_241 (fun H locs hH v407 oq hz hS => ?_)
  have va := va_at.kept va (oq _ (hw_ne k382 k376 (by decide)))
  have v8 := va_at.kept v8 (oq _ (hw_ne k383 k376 (by decide)))
  have v19 := va_at.kept v19 (oq _ (hw_ne k384 k376 (by decide)))
  refine lv_dup hx hb dX12_init_242 rfl ?_
  refine lv_iconst (v := 3) hx hb dX12_init_243 (by decide) ?_
  refine lv_bipush (v := 101) hx hb dX12_init_244 (by decide) ?_
  obtain ⟨f409, v410⟩ := hH.a71 k376
  refine hw_iast hx hb hK hH v410 (hw_in (x := 3) (by decide) (by decide)) (fun _ => by rw [k376]; exact ⟨_, rfl⟩) hS (Or.inr w380) dX12_init_246 (fun H locs hH v410 oq hz hS => ?_)
  have va := va_at.kept va (oq _ (hw_ne k382 k376 (by decide)))
  have v8 := va_at.kept v8 (oq _ (hw_ne k383 k376 (by decide)))
  have v19 := va_at.kept v19 (oq _ (hw_ne k384 k376 (by decide)))
  refine lv_dup hx hb dX12_init_247 rfl ?_
  refine lv_iconst (v := 4) hx hb dX12_init_248 (by decide) ?_
  refine lv_bipush (v := 100) hx hb dX12_init_249 (by decide) ?_
  obtain ⟨f412, v413⟩ := hH.a71 k376
  refine hw_iast hx hb hK hH v413 (hw_in (x := 4) (by decide) (by decide)) (fun _ => by rw [k376]; exact ⟨_, rfl⟩) hS (Or.inr w380) dX12_init_251 (fun H locs hH v413 oq hz hS => ?_)
  have va := va_at.kept va (oq _ (hw_ne k382 k376 (by decide)))
  have v8 := va_at.kept v8 (oq _ (hw_ne k383 k376 (by decide)))
  have v19 := va_at.kept v19 (oq _ (hw_ne k384 k376 (by decide)))
  refine hw_putF (v := .ref q372) (fs' := [.ref q1, .int 0, .ref q12, .int 0, .ref q24, .ref q37, .ref q51, .int 0, .ref q66, .ref q82, .ref q99, .ref q117, .int 0, .ref q136, .int 60, .ref q156, .int 0, .int 0, .ref q177, .ref q199, .int 0, .int 0, .int 0, .int 0, .int 0, .int 0, .int 0, .ref q222, .ref q246, .ref q286, .ref q327, .ref q372, .null, .null, .null, .null, .null, .null, .null, .null, .null, .null, .null, .null, .null]) hx hb ff_66_11 hnm hK hH va (Nat.le_of_ble_eq_true rfl) rfl rfl rfl (fun _ => by rw [k382]; exact (show hw_ok D.2.1 G373 109 _ from ⟨_, rfl⟩)) hS (hw_AWi2 g381 k382 (by decide)) dX12_init_252 (fun H locs hH va oq hz hS => ?_)
  have v8 := va_at.kept v8 (oq _ (hw_ne k383 k382 (by decide)))
  have v19 := va_at.kept v19 (oq _ (hw_ne k384 k382 (by decide)))
  refine lv_aload_n hx hb dX12_init_255 rfl (lv_at hl 0 rfl) ?_
  refine lv_iconst (v := 4) hx hb dX12_init_256 (by decide) ?_
  have hS0 := hS
  refine hw_newa hx hb 72 (atype := .int) (hts (.arrayClass .int) (by decide +kernel)) (ty := .int) rfl (t := 0) rfl (fun _ h9 => h9) hK hH hS (n := 4) (N := 4) (4, .inl (fun _ => 0)) (fun _ => rfl) (show hw_ok D.2.1 G373 72 _ from ⟨_, rfl⟩) (by decide) (by decide) (by decide) (Nat.le_of_ble_eq_true rfl) (Nat.le_of_ble_eq_true rfl) dX12_init_257 (fun q415 G416 H hH m417 m418 k419 l420 e421 v422 oq hz hS => ?_)
  have w423 : s.heap.size ≤ q415 := by have := hS0.1; omega
  have g424 : ∀ x, x < s.heap.size → G416 x = G x := fun x h9 => (l420 x (Nat.lt_of_lt_of_le h9 hS0.1)).trans (g381 x h9)
  have va := va_at.kept va (oq _ (hw_lt va))
  have v8 := va_at.kept v8 (oq _ (hw_lt v8))
  have v19 := va_at.kept v19 (oq _ (hw_lt v19))
  have k425 := hw_kg2 m418 k382 (by decide)
  have k426 := hw_kg m417 k383 (by decide) (by decide)
  have k427 := hw_kg m417 k384 (by decide) (by decide)
  have k428 := hw_kg m417 k385 (by decide) (by decide)
  have k429 := hw_kg m417 k386 (by decide) (by decide)
  have k430 := hw_kg m417 k387 (by decide) (by decide)
  have k431 := hw_kg m417 k388 (by decide) (by decide)
  have k432 := hw_kg m417 k389 (by decide) (by decide)
  have k433 := hw_kg m417 k390 (by decide) (by decide)
  have k434 := hw_kg m417 k391 (by decide) (by decide)
  have k435 := hw_kg m417 k392 (by decide) (by decide)
  have k436 := hw_kg m417 k393 (by decide) (by decide)
  have k437 := hw_kg m417 k394 (by decide) (by decide)
  have k438 := hw_kg m417 k395 (by decide) (by decide)
  have k439 := hw_kg m417 k396 (by decide) (by decide)
  have k440 := hw_kg m417 k397 (by decide) (by decide)
  have k441 := hw_kg m417 k398 (by decide) (by decide)
  have k442 := hw_kg m417 k399 (by decide) (by decide)
  have k443 := hw_kg m417 k376 (by decide) (by decide)
  refine lv_dup hx hb dX12_init_259 rfl ?_
  refine lv_iconst (v := 0) hx hb dX12_init_260 (by decide) ?_
  refine lv_bipush (v := 108) hx hb dX12_init_261 (by decide) ?_
  obtain ⟨f444, v445⟩ := hH.a72 k419
  refine hw_iast hx hb hK hH v445 (hw_in (x := 0) (by decide) (by decide)) (fun _ => by rw [k419]; exact ⟨_, rfl⟩) hS (Or.inr w423) dX12_init_263 (fun H locs hH v445 oq hz hS => ?_)
  have va := va_at.kept va (oq _ (hw_ne k425 k419 (by decide)))
  have v8 := va_at.kept v8 (oq _ (hw_ne k426 k419 (by decide)))
  have v19 := va_at.kept v19 (oq _ (hw_ne k427 k419 (by decide)))
  refine lv_dup hx hb dX12_init_264 rfl ?_
  refine lv_iconst (v := 1) hx hb dX12_init_265 (by decide) ?_
  refine lv_bipush (v := 97) hx hb dX12_init_266 (by decide) ?_
  obtain ⟨f447, v448⟩ := hH.a72 k419
  refine hw_iast hx hb hK hH v448 (hw_in (x := 1) (by decide) (by decide)) (fun _ => by rw [k419]; exact ⟨_, rfl⟩) hS (Or.inr w423) dX12_init_268 (fun H locs hH v448 oq hz hS => ?_)
  have va := va_at.kept va (oq _ (hw_ne k425 k419 (by decide)))
  have v8 := va_at.kept v8 (oq _ (hw_ne k426 k419 (by decide)))
  have v19 := va_at.kept v19 (oq _ (hw_ne k427 k419 (by decide)))
  refine lv_dup hx hb dX12_init_269 rfl ?_
  refine lv_iconst (v := 2) hx hb dX12_init_270 (by decide) ?_
  refine lv_bipush (v := 110) hx hb dX12_init_271 (by decide) ?_
  obtain ⟨f450, v451⟩ := hH.a72 k419
  refine hw_iast hx hb hK hH v451 (hw_in (x := 2) (by decide) (by decide)) (fun _ => by rw [k419]; exact ⟨_, rfl⟩) hS (Or.inr w423) dX12_init_273 (fun H locs hH v451 oq hz hS => ?_)
  have va := va_at.kept va (oq _ (hw_ne k425 k419 (by decide)))
  have v8 := va_at.kept v8 (oq _ (hw_ne k426 k419 (by decide)))
  have v19 := va_at.kept v19 (oq _ (hw_ne k427 k419 (by decide)))
  refine lv_dup hx hb dX12_init_274 rfl ?_
  refine lv_iconst (v := 3) hx hb dX12_init_275 (by decide) ?_
  refine lv_bipush (v := 100) hx hb dX12_init_276 (by decide) ?_
  obtain ⟨f453, v454⟩ := hH.a72 k419
  refine hw_iast hx hb hK hH v454 (hw_in (x := 3) (by decide) (by decide)) (fun _ => by rw [k419]; exact ⟨_, rfl⟩) hS (Or.inr w423) dX12_init_278 (fun H locs hH v454 oq hz hS => ?_)
  have va := va_at.kept va (oq _ (hw_ne k425 k419 (by decide)))
  have v8 := va_at.kept v8 (oq _ (hw_ne k426 k419 (by decide)))
  have v19 := va_at.kept v19 (oq _ (hw_ne k427 k419 (by decide)))
  refine hw_putF (v := .ref q415) (fs' := [.ref q1, .int 0, .ref q12, .int 0, .ref q24, .ref q37, .ref q51, .int 0, .ref q66, .ref q82, .ref q99, .ref q117, .int 0, .ref q136, .int 60, .ref q156, .int 0, .int 0, .ref q177, .ref q199, .int 0, .int 0, .int 0, .int 0, .int 0, .int 0, .int 0, .ref q222, .ref q246, .ref q286, .ref q327, .ref q372, .ref q415, .null, .null, .null, .null, .null, .null, .null, .null, .null, .null, .null, .null]) hx hb ff_69_11 hnm hK hH va (Nat.le_of_ble_eq_true rfl) rfl rfl rfl (fun _ => by rw [k425]; exact (show hw_ok D.2.1 G416 109 _ from ⟨_, rfl⟩)) hS (hw_AWi2 g424 k425 (by decide)) dX12_init_279 (fun H locs hH va oq hz hS => ?_)
  have v8 := va_at.kept v8 (oq _ (hw_ne k426 k425 (by decide)))
  have v19 := va_at.kept v19 (oq _ (hw_ne k427 k425 (by decide)))
  refine lv_aload_n hx hb dX12_init_282 rfl (lv_at hl 0 rfl) ?_
  refine lv_iconst (v := 4) hx hb dX12_init_283 (by decide) ?_
  have hS0 := hS
  refine hw_newa hx hb 73 (atype := .int) (hts (.arrayClass .int) (by decide +kernel)) (ty := .int) rfl (t := 0) rfl (fun _ h9 => h9) hK hH hS (n := 4) (N := 4) (4, .inl (fun _ => 0)) (fun _ => rfl) (show hw_ok D.2.1 G416 73 _ from ⟨_, rfl⟩) (by decide) (by decide) (by decide) (Nat.le_of_ble_eq_true rfl) (Nat.le_of_ble_eq_true rfl) dX12_init_284 (fun q456 G457 H hH m458 m459 k460 l461 e462 v463 oq hz hS => ?_)
  have w464 : s.heap.size ≤ q456 := by have := hS0.1; omega
  have g465 : ∀ x, x < s.heap.size → G457 x = G x := fun x h9 => (l461 x (Nat.lt_of_lt_of_le h9 hS0.1)).trans (g424 x h9)
  have va := va_at.kept va (oq _ (hw_lt va))
  have v8 := va_at.kept v8 (oq _ (hw_lt v8))
  have v19 := va_at.kept v19 (oq _ (hw_lt v19))
  have k466 := hw_kg2 m459 k425 (by decide)
  have k467 := hw_kg m458 k426 (by decide) (by decide)
  have k468 := hw_kg m458 k427 (by decide) (by decide)
  have k469 := hw_kg m458 k428 (by decide) (by decide)
  have k470 := hw_kg m458 k429 (by decide) (by decide)
  have k471 := hw_kg m458 k430 (by decide) (by decide)
  have k472 := hw_kg m458 k431 (by decide) (by decide)
  have k473 := hw_kg m458 k432 (by decide) (by decide)
  have k474 := hw_kg m458 k433 (by decide) (by decide)
  have k475 := hw_kg m458 k434 (by decide) (by decide)
  have k476 := hw_kg m458 k435 (by decide) (by decide)
  have k477 := hw_kg m458 k436 (by decide) (by decide)
  have k478 := hw_kg m458 k437 (by decide) (by decide)
  have k479 := hw_kg m458 k438 (by decide) (by decide)
  have k480 := hw_kg m458 k439 (by decide) (by decide)
  have k481 := hw_kg m458 k440 (by decide) (by decide)
  have k482 := hw_kg m458 k441 (by decide) (by decide)
  have k483 := hw_kg m458 k442 (by decide) (by decide)
  have k484 := hw_kg m458 k443 (by decide) (by decide)
  have k485 := hw_kg m458 k419 (by decide) (by decide)
  refine lv_dup hx hb dX12_init_286 rfl ?_
  refine lv_iconst (v := 0) hx hb dX12_init_287 (by decide) ?_
  refine lv_bipush (v := 108) hx hb dX12_init_288 (by decide) ?_
  obtain ⟨f486, v487⟩ := hH.a73 k460
  refine hw_iast hx hb hK hH v487 (hw_in (x := 0) (by decide) (by decide)) (fun _ => by rw [k460]; exact ⟨_, rfl⟩) hS (Or.inr w464) dX12_init_290 (fun H locs hH v487 oq hz hS => ?_)
  have va := va_at.kept va (oq _ (hw_ne k466 k460 (by decide)))
  have v8 := va_at.kept v8 (oq _ (hw_ne k467 k460 (by decide)))
  have v19 := va_at.kept v19 (oq _ (hw_ne k468 k460 (by decide)))
  refine lv_dup hx hb dX12_init_291 rfl ?_
  refine lv_iconst (v := 1) hx hb dX12_init_292 (by decide) ?_
  refine lv_bipush (v := 111) hx hb dX12_init_293 (by decide) ?_
  obtain ⟨f489, v490⟩ := hH.a73 k460
  refine hw_iast hx hb hK hH v490 (hw_in (x := 1) (by decide) (by decide)) (fun _ => by rw [k460]; exact ⟨_, rfl⟩) hS (Or.inr w464) dX12_init_295 (fun H locs hH v490 oq hz hS => ?_)
  have va := va_at.kept va (oq _ (hw_ne k466 k460 (by decide)))
  have v8 := va_at.kept v8 (oq _ (hw_ne k467 k460 (by decide)))
  have v19 := va_at.kept v19 (oq _ (hw_ne k468 k460 (by decide)))
  refine lv_dup hx hb dX12_init_296 rfl ?_
  refine lv_iconst (v := 2) hx hb dX12_init_297 (by decide) ?_
  refine lv_bipush (v := 99) hx hb dX12_init_298 (by decide) ?_
  obtain ⟨f492, v493⟩ := hH.a73 k460
  refine hw_iast hx hb hK hH v493 (hw_in (x := 2) (by decide) (by decide)) (fun _ => by rw [k460]; exact ⟨_, rfl⟩) hS (Or.inr w464) dX12_init_300 (fun H locs hH v493 oq hz hS => ?_)
  have va := va_at.kept va (oq _ (hw_ne k466 k460 (by decide)))
  have v8 := va_at.kept v8 (oq _ (hw_ne k467 k460 (by decide)))
  have v19 := va_at.kept v19 (oq _ (hw_ne k468 k460 (by decide)))
  refine lv_dup hx hb dX12_init_301 rfl ?_
  refine lv_iconst (v := 3) hx hb dX12_init_302 (by decide) ?_
  refine lv_bipush (v := 107) hx hb dX12_init_303 (by decide) ?_
  obtain ⟨f495, v496⟩ := hH.a73 k460
  refine hw_iast hx hb hK hH v496 (hw_in (x := 3) (by decide) (by decide)) (fun _ => by rw [k460]; exact ⟨_, rfl⟩) hS (Or.inr w464) dX12_init_305 (fun H locs hH v496 oq hz hS => ?_)
  have va := va_at.kept va (oq _ (hw_ne k466 k460 (by decide)))
  have v8 := va_at.kept v8 (oq _ (hw_ne k467 k460 (by decide)))
  have v19 := va_at.kept v19 (oq _ (hw_ne k468 k460 (by decide)))
  refine hw_putF (v := .ref q456) (fs' := [.ref q1, .int 0, .ref q12, .int 0, .ref q24, .ref q37, .ref q51, .int 0, .ref q66, .ref q82, .ref q99, .ref q117, .int 0, .ref q136, .int 60, .ref q156, .int 0, .int 0, .ref q177, .ref q199, .int 0, .int 0, .int 0, .int 0, .int 0, .int 0, .int 0, .ref q222, .ref q246, .ref q286, .ref q327, .ref q372, .ref q415, .ref q456, .null, .null, .null, .null, .null, .null, .null, .null, .null, .null, .null]) hx hb ff_72_11 hnm hK hH va (Nat.le_of_ble_eq_true rfl) rfl rfl rfl (fun _ => by rw [k466]; exact (show hw_ok D.2.1 G457 109 _ from ⟨_, rfl⟩)) hS (hw_AWi2 g465 k466 (by decide)) dX12_init_306 (fun H locs hH va oq hz hS => ?_)
  have v8 := va_at.kept v8 (oq _ (hw_ne k467 k466 (by decide)))
  have v19 := va_at.kept v19 (oq _ (hw_ne k468 k466 (by decide)))
  refine lv_aload_n hx hb dX12_init_309 rfl (lv_at hl 0 rfl) ?_
  refine lv_bipush (v := 6) hx hb dX12_init_310 (by decide) ?_
  have hS0 := hS
  refine hw_newa hx hb 74 (atype := .int) (hts (.arrayClass .int) (by decide +kernel)) (ty := .int) rfl (t := 0) rfl (fun _ h9 => h9) hK hH hS (n := 6) (N := 6) (6, .inl (fun _ => 0)) (fun _ => rfl) (show hw_ok D.2.1 G457 74 _ from ⟨_, rfl⟩) (by decide) (by decide) (by decide) (Nat.le_of_ble_eq_true rfl) (Nat.le_of_ble_eq_true rfl) dX12_init_312 (fun q498 G499 H hH m500 m501 k502 l503 e504 v505 oq hz hS => ?_)
  have w506 : s.heap.size ≤ q498 := by have := hS0.1; omega
  have g507 : ∀ x, x < s.heap.size → G499 x = G x := fun x h9 => (l503 x (Nat.lt_of_lt_of_le h9 hS0.1)).trans (g465 x h9)
  have va := va_at.kept va (oq _ (hw_lt va))
  have v8 := va_at.kept v8 (oq _ (hw_lt v8))
  have v19 := va_at.kept v19 (oq _ (hw_lt v19))
  have k508 := hw_kg2 m501 k466 (by decide)
  have k509 := hw_kg m500 k467 (by decide) (by decide)
  have k510 := hw_kg m500 k468 (by decide) (by decide)
  have k511 := hw_kg m500 k469 (by decide) (by decide)
  have k512 := hw_kg m500 k470 (by decide) (by decide)
  have k513 := hw_kg m500 k471 (by decide) (by decide)
  have k514 := hw_kg m500 k472 (by decide) (by decide)
  have k515 := hw_kg m500 k473 (by decide) (by decide)
  have k516 := hw_kg m500 k474 (by decide) (by decide)
  have k517 := hw_kg m500 k475 (by decide) (by decide)
  have k518 := hw_kg m500 k476 (by decide) (by decide)
  have k519 := hw_kg m500 k477 (by decide) (by decide)
  have k520 := hw_kg m500 k478 (by decide) (by decide)
  have k521 := hw_kg m500 k479 (by decide) (by decide)
  have k522 := hw_kg m500 k480 (by decide) (by decide)
  have k523 := hw_kg m500 k481 (by decide) (by decide)
  have k524 := hw_kg m500 k482 (by decide) (by decide)
  have k525 := hw_kg m500 k483 (by decide) (by decide)
  have k526 := hw_kg m500 k484 (by decide) (by decide)
  have k527 := hw_kg m500 k485 (by decide) (by decide)
  have k528 := hw_kg m500 k460 (by decide) (by decide)
  refine lv_dup hx hb dX12_init_314 rfl ?_
  refine lv_iconst (v := 0) hx hb dX12_init_315 (by decide) ?_
  refine lv_bipush (v := 119) hx hb dX12_init_316 (by decide) ?_
  obtain ⟨f529, v530⟩ := hH.a74 k502
  refine hw_iast hx hb hK hH v530 (hw_in (x := 0) (by decide) (by decide)) (fun _ => by rw [k502]; exact ⟨_, rfl⟩) hS (Or.inr w506) dX12_init_318 (fun H locs hH v530 oq hz hS => ?_)
  have va := va_at.kept va (oq _ (hw_ne k508 k502 (by decide)))
  have v8 := va_at.kept v8 (oq _ (hw_ne k509 k502 (by decide)))
  have v19 := va_at.kept v19 (oq _ (hw_ne k510 k502 (by decide)))
  refine lv_dup hx hb dX12_init_319 rfl ?_
  refine lv_iconst (v := 1) hx hb dX12_init_320 (by decide) ?_
  refine lv_bipush (v := 97) hx hb dX12_init_321 (by decide) ?_
  obtain ⟨f532, v533⟩ := hH.a74 k502
  refine hw_iast hx hb hK hH v533 (hw_in (x := 1) (by decide) (by decide)) (fun _ => by rw [k502]; exact ⟨_, rfl⟩) hS (Or.inr w506) dX12_init_323 (fun H locs hH v533 oq hz hS => ?_)
  have va := va_at.kept va (oq _ (hw_ne k508 k502 (by decide)))
  have v8 := va_at.kept v8 (oq _ (hw_ne k509 k502 (by decide)))
  have v19 := va_at.kept v19 (oq _ (hw_ne k510 k502 (by decide)))
  refine lv_dup hx hb dX12_init_324 rfl ?_
  refine lv_iconst (v := 2) hx hb dX12_init_325 (by decide) ?_
  refine lv_bipush (v := 108) hx hb dX12_init_326 (by decide) ?_
  obtain ⟨f535, v536⟩ := hH.a74 k502
  refine hw_iast hx hb hK hH v536 (hw_in (x := 2) (by decide) (by decide)) (fun _ => by rw [k502]; exact ⟨_, rfl⟩) hS (Or.inr w506) dX12_init_328 (fun H locs hH v536 oq hz hS => ?_)
  have va := va_at.kept va (oq _ (hw_ne k508 k502 (by decide)))
  have v8 := va_at.kept v8 (oq _ (hw_ne k509 k502 (by decide)))
  have v19 := va_at.kept v19 (oq _ (hw_ne k510 k502 (by decide)))
  refine lv_dup hx hb dX12_init_329 rfl ?_
  refine lv_iconst (v := 3) hx hb dX12_init_330 (by decide) ?_
  refine lv_bipush (v := 107) hx hb dX12_init_331 (by decide) ?_
  obtain ⟨f538, v539⟩ := hH.a74 k502
  refine hw_iast hx hb hK hH v539 (hw_in (x := 3) (by decide) (by decide)) (fun _ => by rw [k502]; exact ⟨_, rfl⟩) hS (Or.inr w506) dX12_init_333 (fun H locs hH v539 oq hz hS => ?_)
  have va := va_at.kept va (oq _ (hw_ne k508 k502 (by decide)))
  have v8 := va_at.kept v8 (oq _ (hw_ne k509 k502 (by decide)))
  have v19 := va_at.kept v19 (oq _ (hw_ne k510 k502 (by decide)))
  refine lv_dup hx hb dX12_init_334 rfl ?_
  refine lv_iconst (v := 4) hx hb dX12_init_335 (by decide) ?_
  refine lv_bipush (v := 101) hx hb dX12_init_336 (by decide) ?_
  obtain ⟨f541, v542⟩ := hH.a74 k502
  refine hw_iast hx hb hK hH v542 (hw_in (x := 4) (by decide) (by decide)) (fun _ => by rw [k502]; exact ⟨_, rfl⟩) hS (Or.inr w506) dX12_init_338 (fun H locs hH v542 oq hz hS => ?_)
  have va := va_at.kept va (oq _ (hw_ne k508 k502 (by decide)))
  have v8 := va_at.kept v8 (oq _ (hw_ne k509 k502 (by decide)))
  have v19 := va_at.kept v19 (oq _ (hw_ne k510 k502 (by decide)))
  refine lv_dup hx hb dX12_init_339 rfl ?_
  refine lv_iconst (v := 5) hx hb dX12_init_340 (by decide) ?_
  refine lv_bipush (v := 114) hx hb dX12_init_341 (by decide) ?_
  obtain ⟨f544, v545⟩ := hH.a74 k502
  refine hw_iast hx hb hK hH v545 (hw_in (x := 5) (by decide) (by decide)) (fun _ => by rw [k502]; exact ⟨_, rfl⟩) hS (Or.inr w506) dX12_init_343 (fun H locs hH v545 oq hz hS => ?_)
  have va := va_at.kept va (oq _ (hw_ne k508 k502 (by decide)))
  have v8 := va_at.kept v8 (oq _ (hw_ne k509 k502 (by decide)))
  have v19 := va_at.kept v19 (oq _ (hw_ne k510 k502 (by decide)))
  refine hw_putF (v := .ref q498) (fs' := [.ref q1, .int 0, .ref q12, .int 0, .ref q24, .ref q37, .ref q51, .int 0, .ref q66, .ref q82, .ref q99, .ref q117, .int 0, .ref q136, .int 60, .ref q156, .int 0, .int 0, .ref q177, .ref q199, .int 0, .int 0, .int 0, .int 0, .int 0, .int 0, .int 0, .ref q222, .ref q246, .ref q286, .ref q327, .ref q372, .ref q415, .ref q456, .ref q498, .null, .null, .null, .null, .null, .null, .null, .null, .null, .null]) hx hb ff_75_11 hnm hK hH va (Nat.le_of_ble_eq_true rfl) rfl rfl rfl (fun _ => by rw [k508]; exact (show hw_ok D.2.1 G499 109 _ from ⟨_, rfl⟩)) hS (hw_AWi2 g507 k508 (by decide)) dX12_init_344 (fun H locs hH va oq hz hS => ?_)
  have v8 := va_at.kept v8 (oq _ (hw_ne k509 k508 (by decide)))
  have v19 := va_at.kept v19 (oq _ (hw_ne k510 k508 (by decide)))
  refine lv_aload_n hx hb dX12_init_347 rfl (lv_at hl 0 rfl) ?_
  refine lv_iconst (v := 4) hx hb dX12_init_348 (by decide) ?_
  have hS0 := hS
  refine hw_newa hx hb 75 (atype := .int) (hts (.arrayClass .int) (by decide +kernel)) (ty := .int) rfl (t := 0) rfl (fun _ h9 => h9) hK hH hS (n := 4) (N := 4) (4, .inl (fun _ => 0)) (fun _ => rfl) (show hw_ok D.2.1 G499 75 _ from ⟨_, rfl⟩) (by decide) (by decide) (by decide) (Nat.le_of_ble_eq_true rfl) (Nat.le_of_ble_eq_true rfl) dX12_init_349 (fun q547 G548 H hH m549 m550 k551 l552 e553 v554 oq hz hS => ?_)
  have w555 : s.heap.size ≤ q547 := by have := hS0.1; omega
  have g556 : ∀ x, x < s.heap.size → G548 x = G x := fun x h9 => (l552 x (Nat.lt_of_lt_of_le h9 hS0.1)).trans (g507 x h9)
  have va := va_at.kept va (oq _ (hw_lt va))
  have v8 := va_at.kept v8 (oq _ (hw_lt v8))
  have v19 := va_at.kept v19 (oq _ (hw_lt v19))
  have k557 := hw_kg2 m550 k508 (by decide)
  have k558 := hw_kg m549 k509 (by decide) (by decide)
  have k559 := hw_kg m549 k510 (by decide) (by decide)
  have k560 := hw_kg m549 k511 (by decide) (by decide)
  have k561 := hw_kg m549 k512 (by decide) (by decide)
  have k562 := hw_kg m549 k513 (by decide) (by decide)
  have k563 := hw_kg m549 k514 (by decide) (by decide)
  have k564 := hw_kg m549 k515 (by decide) (by decide)
  have k565 := hw_kg m549 k516 (by decide) (by decide)
  have k566 := hw_kg m549 k517 (by decide) (by decide)
  have k567 := hw_kg m549 k518 (by decide) (by decide)
  have k568 := hw_kg m549 k519 (by decide) (by decide)
  have k569 := hw_kg m549 k520 (by decide) (by decide)
  have k570 := hw_kg m549 k521 (by decide) (by decide)
  have k571 := hw_kg m549 k522 (by decide) (by decide)
  have k572 := hw_kg m549 k523 (by decide) (by decide)
  have k573 := hw_kg m549 k524 (by decide) (by decide)
  have k574 := hw_kg m549 k525 (by decide) (by decide)
  have k575 := hw_kg m549 k526 (by decide) (by decide)
  have k576 := hw_kg m549 k527 (by decide) (by decide)
  have k577 := hw_kg m549 k528 (by decide) (by decide)
  have k578 := hw_kg m549 k502 (by decide) (by decide)
  refine lv_dup hx hb dX12_init_351 rfl ?_
  refine lv_iconst (v := 0) hx hb dX12_init_352 (by decide) ?_
  refine lv_bipush (v := 100) hx hb dX12_init_353 (by decide) ?_
  obtain ⟨f579, v580⟩ := hH.a75 k551
  refine hw_iast hx hb hK hH v580 (hw_in (x := 0) (by decide) (by decide)) (fun _ => by rw [k551]; exact ⟨_, rfl⟩) hS (Or.inr w555) dX12_init_355 (fun H locs hH v580 oq hz hS => ?_)
  have va := va_at.kept va (oq _ (hw_ne k557 k551 (by decide)))
  have v8 := va_at.kept v8 (oq _ (hw_ne k558 k551 (by decide)))
  have v19 := va_at.kept v19 (oq _ (hw_ne k559 k551 (by decide)))
  refine lv_dup hx hb dX12_init_356 rfl ?_
  refine lv_iconst (v := 1) hx hb dX12_init_357 (by decide) ?_
  refine lv_bipush (v := 97) hx hb dX12_init_358 (by decide) ?_
  obtain ⟨f582, v583⟩ := hH.a75 k551
  refine hw_iast hx hb hK hH v583 (hw_in (x := 1) (by decide) (by decide)) (fun _ => by rw [k551]; exact ⟨_, rfl⟩) hS (Or.inr w555) dX12_init_360 (fun H locs hH v583 oq hz hS => ?_)
  have va := va_at.kept va (oq _ (hw_ne k557 k551 (by decide)))
  have v8 := va_at.kept v8 (oq _ (hw_ne k558 k551 (by decide)))
  have v19 := va_at.kept v19 (oq _ (hw_ne k559 k551 (by decide)))
  refine lv_dup hx hb dX12_init_361 rfl ?_
  refine lv_iconst (v := 2) hx hb dX12_init_362 (by decide) ?_
  refine lv_bipush (v := 114) hx hb dX12_init_363 (by decide) ?_
  obtain ⟨f585, v586⟩ := hH.a75 k551
  refine hw_iast hx hb hK hH v586 (hw_in (x := 2) (by decide) (by decide)) (fun _ => by rw [k551]; exact ⟨_, rfl⟩) hS (Or.inr w555) dX12_init_365 (fun H locs hH v586 oq hz hS => ?_)
  have va := va_at.kept va (oq _ (hw_ne k557 k551 (by decide)))
  have v8 := va_at.kept v8 (oq _ (hw_ne k558 k551 (by decide)))
  have v19 := va_at.kept v19 (oq _ (hw_ne k559 k551 (by decide)))
  refine lv_dup hx hb dX12_init_366 rfl ?_
  refine lv_iconst (v := 3) hx hb dX12_init_367 (by decide) ?_
  refine lv_bipush (v := 107) hx hb dX12_init_368 (by decide) ?_
  obtain ⟨f588, v589⟩ := hH.a75 k551
  refine hw_iast hx hb hK hH v589 (hw_in (x := 3) (by decide) (by decide)) (fun _ => by rw [k551]; exact ⟨_, rfl⟩) hS (Or.inr w555) dX12_init_370 (fun H locs hH v589 oq hz hS => ?_)
  have va := va_at.kept va (oq _ (hw_ne k557 k551 (by decide)))
  have v8 := va_at.kept v8 (oq _ (hw_ne k558 k551 (by decide)))
  have v19 := va_at.kept v19 (oq _ (hw_ne k559 k551 (by decide)))
  refine hw_putF (v := .ref q547) (fs' := [.ref q1, .int 0, .ref q12, .int 0, .ref q24, .ref q37, .ref q51, .int 0, .ref q66, .ref q82, .ref q99, .ref q117, .int 0, .ref q136, .int 60, .ref q156, .int 0, .int 0, .ref q177, .ref q199, .int 0, .int 0, .int 0, .int 0, .int 0, .int 0, .int 0, .ref q222, .ref q246, .ref q286, .ref q327, .ref q372, .ref q415, .ref q456, .ref q498, .ref q547, .null, .null, .null, .null, .null, .null, .null, .null, .null]) hx hb ff_78_11 hnm hK hH va (Nat.le_of_ble_eq_true rfl) rfl rfl rfl (fun _ => by rw [k557]; exact (show hw_ok D.2.1 G548 109 _ from ⟨_, rfl⟩)) hS (hw_AWi2 g556 k557 (by decide)) dX12_init_371 (fun H locs hH va oq hz hS => ?_)
  have v8 := va_at.kept v8 (oq _ (hw_ne k558 k557 (by decide)))
  have v19 := va_at.kept v19 (oq _ (hw_ne k559 k557 (by decide)))
  refine lv_aload_n hx hb dX12_init_374 rfl (lv_at hl 0 rfl) ?_
  refine lv_sipush (v := 1024) hx hb dX12_init_375 (by decide) ?_
  have hS0 := hS
  refine hw_newa hx hb 76 (atype := .int) (hts (.arrayClass .int) (by decide +kernel)) (ty := .int) rfl (t := 0) rfl (fun _ h9 => h9) hK hH hS (n := 1024) (N := 1024) (1024, .inl (fun _ => 0)) (fun _ => rfl) (show hw_ok D.2.1 G548 76 _ from ⟨_, rfl⟩) (by decide) (by decide) (by decide) (Nat.le_of_ble_eq_true rfl) (Nat.le_of_ble_eq_true rfl) dX12_init_378 (fun q591 G592 H hH m593 m594 k595 l596 e597 v598 oq hz hS => ?_)
  have w599 : s.heap.size ≤ q591 := by have := hS0.1; omega
  have g600 : ∀ x, x < s.heap.size → G592 x = G x := fun x h9 => (l596 x (Nat.lt_of_lt_of_le h9 hS0.1)).trans (g556 x h9)
  have va := va_at.kept va (oq _ (hw_lt va))
  have v8 := va_at.kept v8 (oq _ (hw_lt v8))
  have v19 := va_at.kept v19 (oq _ (hw_lt v19))
  have k601 := hw_kg2 m594 k557 (by decide)
  have k602 := hw_kg m593 k558 (by decide) (by decide)
  have k603 := hw_kg m593 k559 (by decide) (by decide)
  have k604 := hw_kg m593 k560 (by decide) (by decide)
  have k605 := hw_kg m593 k561 (by decide) (by decide)
  have k606 := hw_kg m593 k562 (by decide) (by decide)
  have k607 := hw_kg m593 k563 (by decide) (by decide)
  have k608 := hw_kg m593 k564 (by decide) (by decide)
  have k609 := hw_kg m593 k565 (by decide) (by decide)
  have k610 := hw_kg m593 k566 (by decide) (by decide)
  have k611 := hw_kg m593 k567 (by decide) (by decide)
  have k612 := hw_kg m593 k568 (by decide) (by decide)
  have k613 := hw_kg m593 k569 (by decide) (by decide)
  have k614 := hw_kg m593 k570 (by decide) (by decide)
  have k615 := hw_kg m593 k571 (by decide) (by decide)
  have k616 := hw_kg m593 k572 (by decide) (by decide)
  have k617 := hw_kg m593 k573 (by decide) (by decide)
  have k618 := hw_kg m593 k574 (by decide) (by decide)
  have k619 := hw_kg m593 k575 (by decide) (by decide)
  have k620 := hw_kg m593 k576 (by decide) (by decide)
  have k621 := hw_kg m593 k577 (by decide) (by decide)
  have k622 := hw_kg m593 k578 (by decide) (by decide)
  have k623 := hw_kg m593 k551 (by decide) (by decide)
  refine hw_putF (v := .ref q591) (fs' := [.ref q1, .int 0, .ref q12, .int 0, .ref q24, .ref q37, .ref q51, .int 0, .ref q66, .ref q82, .ref q99, .ref q117, .int 0, .ref q136, .int 60, .ref q156, .int 0, .int 0, .ref q177, .ref q199, .int 0, .int 0, .int 0, .int 0, .int 0, .int 0, .int 0, .ref q222, .ref q246, .ref q286, .ref q327, .ref q372, .ref q415, .ref q456, .ref q498, .ref q547, .ref q591, .null, .null, .null, .null, .null, .null, .null, .null]) hx hb ff_81_11 hnm hK hH va (Nat.le_of_ble_eq_true rfl) rfl rfl rfl (fun _ => by rw [k601]; exact (show hw_ok D.2.1 G592 109 _ from ⟨_, rfl⟩)) hS (hw_AWi2 g600 k601 (by decide)) dX12_init_380 (fun H locs hH va oq hz hS => ?_)
  have v8 := va_at.kept v8 (oq _ (hw_ne k602 k601 (by decide)))
  have v19 := va_at.kept v19 (oq _ (hw_ne k603 k601 (by decide)))
  refine lv_aload_n hx hb dX12_init_383 rfl (lv_at hl 0 rfl) ?_
  refine lv_sipush (v := 896) hx hb dX12_init_384 (by decide) ?_
  have hS0 := hS
  refine hw_newa hx hb 77 (atype := .int) (hts (.arrayClass .int) (by decide +kernel)) (ty := .int) rfl (t := 0) rfl (fun _ h9 => h9) hK hH hS (n := 896) (N := 896) (896, .inl (fun _ => 0)) (fun _ => rfl) (show hw_ok D.2.1 G592 77 _ from ⟨_, rfl⟩) (by decide) (by decide) (by decide) (Nat.le_of_ble_eq_true rfl) (Nat.le_of_ble_eq_true rfl) dX12_init_387 (fun q624 G625 H hH m626 m627 k628 l629 e630 v631 oq hz hS => ?_)
  have w632 : s.heap.size ≤ q624 := by have := hS0.1; omega
  have g633 : ∀ x, x < s.heap.size → G625 x = G x := fun x h9 => (l629 x (Nat.lt_of_lt_of_le h9 hS0.1)).trans (g600 x h9)
  have va := va_at.kept va (oq _ (hw_lt va))
  have v8 := va_at.kept v8 (oq _ (hw_lt v8))
  have v19 := va_at.kept v19 (oq _ (hw_lt v19))
  have k634 := hw_kg2 m627 k601 (by decide)
  have k635 := hw_kg m626 k602 (by decide) (by decide)
  have k636 := hw_kg m626 k603 (by decide) (by decide)
  have k637 := hw_kg m626 k604 (by decide) (by decide)
  have k638 := hw_kg m626 k605 (by decide) (by decide)
  have k639 := hw_kg m626 k606 (by decide) (by decide)
  have k640 := hw_kg m626 k607 (by decide) (by decide)
  have k641 := hw_kg m626 k608 (by decide) (by decide)
  have k642 := hw_kg m626 k609 (by decide) (by decide)
  have k643 := hw_kg m626 k610 (by decide) (by decide)
  have k644 := hw_kg m626 k611 (by decide) (by decide)
  have k645 := hw_kg m626 k612 (by decide) (by decide)
  have k646 := hw_kg m626 k613 (by decide) (by decide)
  have k647 := hw_kg m626 k614 (by decide) (by decide)
  have k648 := hw_kg m626 k615 (by decide) (by decide)
  have k649 := hw_kg m626 k616 (by decide) (by decide)
  have k650 := hw_kg m626 k617 (by decide) (by decide)
  have k651 := hw_kg m626 k618 (by decide) (by decide)
  have k652 := hw_kg m626 k619 (by decide) (by decide)
  have k653 := hw_kg m626 k620 (by decide) (by decide)
  have k654 := hw_kg m626 k621 (by decide) (by decide)
  have k655 := hw_kg m626 k622 (by decide) (by decide)
  have k656 := hw_kg m626 k623 (by decide) (by decide)
  have k657 := hw_kg m626 k595 (by decide) (by decide)
  refine hw_putF (v := .ref q624) (fs' := [.ref q1, .int 0, .ref q12, .int 0, .ref q24, .ref q37, .ref q51, .int 0, .ref q66, .ref q82, .ref q99, .ref q117, .int 0, .ref q136, .int 60, .ref q156, .int 0, .int 0, .ref q177, .ref q199, .int 0, .int 0, .int 0, .int 0, .int 0, .int 0, .int 0, .ref q222, .ref q246, .ref q286, .ref q327, .ref q372, .ref q415, .ref q456, .ref q498, .ref q547, .ref q591, .ref q624, .null, .null, .null, .null, .null, .null, .null]) hx hb ff_84_11 hnm hK hH va (Nat.le_of_ble_eq_true rfl) rfl rfl rfl (fun _ => by rw [k634]; exact (show hw_ok D.2.1 G625 109 _ from ⟨_, rfl⟩)) hS (hw_AWi2 g633 k634 (by decide)) dX12_init_389 (fun H locs hH va oq hz hS => ?_)
  have v8 := va_at.kept v8 (oq _ (hw_ne k635 k634 (by decide)))
  have v19 := va_at.kept v19 (oq _ (hw_ne k636 k634 (by decide)))
  refine lv_aload_n hx hb dX12_init_392 rfl (lv_at hl 0 rfl) ?_
  refine lv_sipush (v := 128) hx hb dX12_init_393 (by decide) ?_
  have hS0 := hS
  refine hw_newa hx hb 78 (atype := .int) (hts (.arrayClass .int) (by decide +kernel)) (ty := .int) rfl (t := 0) rfl (fun _ h9 => h9) hK hH hS (n := 128) (N := 128) (128, .inl (fun _ => 0)) (fun _ => rfl) (show hw_ok D.2.1 G625 78 _ from ⟨_, rfl⟩) (by decide) (by decide) (by decide) (Nat.le_of_ble_eq_true rfl) (Nat.le_of_ble_eq_true rfl) dX12_init_396 (fun q658 G659 H hH m660 m661 k662 l663 e664 v665 oq hz hS => ?_)
  have w666 : s.heap.size ≤ q658 := by have := hS0.1; omega
  have g667 : ∀ x, x < s.heap.size → G659 x = G x := fun x h9 => (l663 x (Nat.lt_of_lt_of_le h9 hS0.1)).trans (g633 x h9)
  have va := va_at.kept va (oq _ (hw_lt va))
  have v8 := va_at.kept v8 (oq _ (hw_lt v8))
  have v19 := va_at.kept v19 (oq _ (hw_lt v19))
  have k668 := hw_kg2 m661 k634 (by decide)
  have k669 := hw_kg m660 k635 (by decide) (by decide)
  have k670 := hw_kg m660 k636 (by decide) (by decide)
  have k671 := hw_kg m660 k637 (by decide) (by decide)
  have k672 := hw_kg m660 k638 (by decide) (by decide)
  have k673 := hw_kg m660 k639 (by decide) (by decide)
  have k674 := hw_kg m660 k640 (by decide) (by decide)
  have k675 := hw_kg m660 k641 (by decide) (by decide)
  have k676 := hw_kg m660 k642 (by decide) (by decide)
  have k677 := hw_kg m660 k643 (by decide) (by decide)
  have k678 := hw_kg m660 k644 (by decide) (by decide)
  have k679 := hw_kg m660 k645 (by decide) (by decide)
  have k680 := hw_kg m660 k646 (by decide) (by decide)
  have k681 := hw_kg m660 k647 (by decide) (by decide)
  have k682 := hw_kg m660 k648 (by decide) (by decide)
  have k683 := hw_kg m660 k649 (by decide) (by decide)
  have k684 := hw_kg m660 k650 (by decide) (by decide)
  have k685 := hw_kg m660 k651 (by decide) (by decide)
  have k686 := hw_kg m660 k652 (by decide) (by decide)
  have k687 := hw_kg m660 k653 (by decide) (by decide)
  have k688 := hw_kg m660 k654 (by decide) (by decide)
  have k689 := hw_kg m660 k655 (by decide) (by decide)
  have k690 := hw_kg m660 k656 (by decide) (by decide)
  have k691 := hw_kg m660 k657 (by decide) (by decide)
  have k692 := hw_kg m660 k628 (by decide) (by decide)
  refine hw_putF (v := .ref q658) (fs' := [.ref q1, .int 0, .ref q12, .int 0, .ref q24, .ref q37, .ref q51, .int 0, .ref q66, .ref q82, .ref q99, .ref q117, .int 0, .ref q136, .int 60, .ref q156, .int 0, .int 0, .ref q177, .ref q199, .int 0, .int 0, .int 0, .int 0, .int 0, .int 0, .int 0, .ref q222, .ref q246, .ref q286, .ref q327, .ref q372, .ref q415, .ref q456, .ref q498, .ref q547, .ref q591, .ref q624, .ref q658, .null, .null, .null, .null, .null, .null]) hx hb ff_87_11 hnm hK hH va (Nat.le_of_ble_eq_true rfl) rfl rfl rfl (fun _ => by rw [k668]; exact (show hw_ok D.2.1 G659 109 _ from ⟨_, rfl⟩)) hS (hw_AWi2 g667 k668 (by decide)) dX12_init_398 (fun H locs hH va oq hz hS => ?_)
  have v8 := va_at.kept v8 (oq _ (hw_ne k669 k668 (by decide)))
  have v19 := va_at.kept v19 (oq _ (hw_ne k670 k668 (by decide)))
  refine lv_aload_n hx hb dX12_init_401 rfl (lv_at hl 0 rfl) ?_
  refine lv_sipush (v := 128) hx hb dX12_init_402 (by decide) ?_
  have hS0 := hS
  refine hw_newa hx hb 79 (atype := .int) (hts (.arrayClass .int) (by decide +kernel)) (ty := .int) rfl (t := 0) rfl (fun _ h9 => h9) hK hH hS (n := 128) (N := 128) (128, .inl (fun _ => 0)) (fun _ => rfl) (show hw_ok D.2.1 G659 79 _ from ⟨_, rfl⟩) (by decide) (by decide) (by decide) (Nat.le_of_ble_eq_true rfl) (Nat.le_of_ble_eq_true rfl) dX12_init_405 (fun q693 G694 H hH m695 m696 k697 l698 e699 v700 oq hz hS => ?_)
  have w701 : s.heap.size ≤ q693 := by have := hS0.1; omega
  have g702 : ∀ x, x < s.heap.size → G694 x = G x := fun x h9 => (l698 x (Nat.lt_of_lt_of_le h9 hS0.1)).trans (g667 x h9)
  have va := va_at.kept va (oq _ (hw_lt va))
  have v8 := va_at.kept v8 (oq _ (hw_lt v8))
  have v19 := va_at.kept v19 (oq _ (hw_lt v19))
  have k703 := hw_kg2 m696 k668 (by decide)
  have k704 := hw_kg m695 k669 (by decide) (by decide)
  have k705 := hw_kg m695 k670 (by decide) (by decide)
  have k706 := hw_kg m695 k671 (by decide) (by decide)
  have k707 := hw_kg m695 k672 (by decide) (by decide)
  have k708 := hw_kg m695 k673 (by decide) (by decide)
  have k709 := hw_kg m695 k674 (by decide) (by decide)
  have k710 := hw_kg m695 k675 (by decide) (by decide)
  have k711 := hw_kg m695 k676 (by decide) (by decide)
  have k712 := hw_kg m695 k677 (by decide) (by decide)
  have k713 := hw_kg m695 k678 (by decide) (by decide)
  have k714 := hw_kg m695 k679 (by decide) (by decide)
  have k715 := hw_kg m695 k680 (by decide) (by decide)
  have k716 := hw_kg m695 k681 (by decide) (by decide)
  have k717 := hw_kg m695 k682 (by decide) (by decide)
  have k718 := hw_kg m695 k683 (by decide) (by decide)
  have k719 := hw_kg m695 k684 (by decide) (by decide)
  have k720 := hw_kg m695 k685 (by decide) (by decide)
  have k721 := hw_kg m695 k686 (by decide) (by decide)
  have k722 := hw_kg m695 k687 (by decide) (by decide)
  have k723 := hw_kg m695 k688 (by decide) (by decide)
  have k724 := hw_kg m695 k689 (by decide) (by decide)
  have k725 := hw_kg m695 k690 (by decide) (by decide)
  have k726 := hw_kg m695 k691 (by decide) (by decide)
  have k727 := hw_kg m695 k692 (by decide) (by decide)
  have k728 := hw_kg m695 k662 (by decide) (by decide)
  refine hw_putF (v := .ref q693) (fs' := [.ref q1, .int 0, .ref q12, .int 0, .ref q24, .ref q37, .ref q51, .int 0, .ref q66, .ref q82, .ref q99, .ref q117, .int 0, .ref q136, .int 60, .ref q156, .int 0, .int 0, .ref q177, .ref q199, .int 0, .int 0, .int 0, .int 0, .int 0, .int 0, .int 0, .ref q222, .ref q246, .ref q286, .ref q327, .ref q372, .ref q415, .ref q456, .ref q498, .ref q547, .ref q591, .ref q624, .ref q658, .ref q693, .null, .null, .null, .null, .null]) hx hb ff_90_11 hnm hK hH va (Nat.le_of_ble_eq_true rfl) rfl rfl rfl (fun _ => by rw [k703]; exact (show hw_ok D.2.1 G694 109 _ from ⟨_, rfl⟩)) hS (hw_AWi2 g702 k703 (by decide)) dX12_init_407 (fun H locs hH va oq hz hS => ?_)
  have v8 := va_at.kept v8 (oq _ (hw_ne k704 k703 (by decide)))
  have v19 := va_at.kept v19 (oq _ (hw_ne k705 k703 (by decide)))
  refine lv_aload_n hx hb dX12_init_410 rfl (lv_at hl 0 rfl) ?_
  refine lv_sipush (v := 128) hx hb dX12_init_411 (by decide) ?_
  have hS0 := hS
  refine hw_newa hx hb 80 (atype := .int) (hts (.arrayClass .int) (by decide +kernel)) (ty := .int) rfl (t := 0) rfl (fun _ h9 => h9) hK hH hS (n := 128) (N := 128) (128, .inl (fun _ => 0)) (fun _ => rfl) (show hw_ok D.2.1 G694 80 _ from ⟨_, rfl⟩) (by decide) (by decide) (by decide) (Nat.le_of_ble_eq_true rfl) (Nat.le_of_ble_eq_true rfl) dX12_init_414 (fun q729 G730 H hH m731 m732 k733 l734 e735 v736 oq hz hS => ?_)
  have w737 : s.heap.size ≤ q729 := by have := hS0.1; omega
  have g738 : ∀ x, x < s.heap.size → G730 x = G x := fun x h9 => (l734 x (Nat.lt_of_lt_of_le h9 hS0.1)).trans (g702 x h9)
  have va := va_at.kept va (oq _ (hw_lt va))
  have v8 := va_at.kept v8 (oq _ (hw_lt v8))
  have v19 := va_at.kept v19 (oq _ (hw_lt v19))
  have k739 := hw_kg2 m732 k703 (by decide)
  have k740 := hw_kg m731 k704 (by decide) (by decide)
  have k741 := hw_kg m731 k705 (by decide) (by decide)
  have k742 := hw_kg m731 k706 (by decide) (by decide)
  have k743 := hw_kg m731 k707 (by decide) (by decide)
  have k744 := hw_kg m731 k708 (by decide) (by decide)
  have k745 := hw_kg m731 k709 (by decide) (by decide)
  have k746 := hw_kg m731 k710 (by decide) (by decide)
  have k747 := hw_kg m731 k711 (by decide) (by decide)
  have k748 := hw_kg m731 k712 (by decide) (by decide)
  have k749 := hw_kg m731 k713 (by decide) (by decide)
  have k750 := hw_kg m731 k714 (by decide) (by decide)
  have k751 := hw_kg m731 k715 (by decide) (by decide)
  have k752 := hw_kg m731 k716 (by decide) (by decide)
  have k753 := hw_kg m731 k717 (by decide) (by decide)
  have k754 := hw_kg m731 k718 (by decide) (by decide)
  have k755 := hw_kg m731 k719 (by decide) (by decide)
  have k756 := hw_kg m731 k720 (by decide) (by decide)
  have k757 := hw_kg m731 k721 (by decide) (by decide)
  have k758 := hw_kg m731 k722 (by decide) (by decide)
  have k759 := hw_kg m731 k723 (by decide) (by decide)
  have k760 := hw_kg m731 k724 (by decide) (by decide)
  have k761 := hw_kg m731 k725 (by decide) (by decide)
  have k762 := hw_kg m731 k726 (by decide) (by decide)
  have k763 := hw_kg m731 k727 (by decide) (by decide)
  have k764 := hw_kg m731 k728 (by decide) (by decide)
  have k765 := hw_kg m731 k697 (by decide) (by decide)
  refine hw_putF (v := .ref q729) (fs' := [.ref q1, .int 0, .ref q12, .int 0, .ref q24, .ref q37, .ref q51, .int 0, .ref q66, .ref q82, .ref q99, .ref q117, .int 0, .ref q136, .int 60, .ref q156, .int 0, .int 0, .ref q177, .ref q199, .int 0, .int 0, .int 0, .int 0, .int 0, .int 0, .int 0, .ref q222, .ref q246, .ref q286, .ref q327, .ref q372, .ref q415, .ref q456, .ref q498, .ref q547, .ref q591, .ref q624, .ref q658, .ref q693, .ref q729, .null, .null, .null, .null]) hx hb ff_93_11 hnm hK hH va (Nat.le_of_ble_eq_true rfl) rfl rfl rfl (fun _ => by rw [k739]; exact (show hw_ok D.2.1 G730 109 _ from ⟨_, rfl⟩)) hS (hw_AWi2 g738 k739 (by decide)) dX12_init_416 (fun H locs hH va oq hz hS => ?_)
  have v8 := va_at.kept v8 (oq _ (hw_ne k740 k739 (by decide)))
  have v19 := va_at.kept v19 (oq _ (hw_ne k741 k739 (by decide)))
  refine lv_aload_n hx hb dX12_init_419 rfl (lv_at hl 0 rfl) ?_
  refine lv_iconst (v := 4) hx hb dX12_init_420 (by decide) ?_
  have hS0 := hS
  refine hw_newa hx hb 81 (atype := .int) (hts (.arrayClass .int) (by decide +kernel)) (ty := .int) rfl (t := 0) rfl (fun _ h9 => h9) hK hH hS (n := 4) (N := 4) (4, .inl (fun _ => 0)) (fun _ => rfl) (show hw_ok D.2.1 G730 81 _ from ⟨_, rfl⟩) (by decide) (by decide) (by decide) (Nat.le_of_ble_eq_true rfl) (Nat.le_of_ble_eq_true rfl) dX12_init_421 (fun q766 G767 H hH m768 m769 k770 l771 e772 v773 oq hz hS => ?_)
  have w774 : s.heap.size ≤ q766 := by have := hS0.1; omega
  have g775 : ∀ x, x < s.heap.size → G767 x = G x := fun x h9 => (l771 x (Nat.lt_of_lt_of_le h9 hS0.1)).trans (g738 x h9)
  have va := va_at.kept va (oq _ (hw_lt va))
  have v8 := va_at.kept v8 (oq _ (hw_lt v8))
  have v19 := va_at.kept v19 (oq _ (hw_lt v19))
  have k776 := hw_kg2 m769 k739 (by decide)
  have k777 := hw_kg m768 k740 (by decide) (by decide)
  have k778 := hw_kg m768 k741 (by decide) (by decide)
  have k779 := hw_kg m768 k742 (by decide) (by decide)
  have k780 := hw_kg m768 k743 (by decide) (by decide)
  have k781 := hw_kg m768 k744 (by decide) (by decide)
  have k782 := hw_kg m768 k745 (by decide) (by decide)
  have k783 := hw_kg m768 k746 (by decide) (by decide)
  have k784 := hw_kg m768 k747 (by decide) (by decide)
  have k785 := hw_kg m768 k748 (by decide) (by decide)
  have k786 := hw_kg m768 k749 (by decide) (by decide)
  have k787 := hw_kg m768 k750 (by decide) (by decide)
  have k788 := hw_kg m768 k751 (by decide) (by decide)
  have k789 := hw_kg m768 k752 (by decide) (by decide)
  have k790 := hw_kg m768 k753 (by decide) (by decide)
  have k791 := hw_kg m768 k754 (by decide) (by decide)
  have k792 := hw_kg m768 k755 (by decide) (by decide)
  have k793 := hw_kg m768 k756 (by decide) (by decide)
  have k794 := hw_kg m768 k757 (by decide) (by decide)
  have k795 := hw_kg m768 k758 (by decide) (by decide)
  have k796 := hw_kg m768 k759 (by decide) (by decide)
  have k797 := hw_kg m768 k760 (by decide) (by decide)
  have k798 := hw_kg m768 k761 (by decide) (by decide)
  have k799 := hw_kg m768 k762 (by decide) (by decide)
  have k800 := hw_kg m768 k763 (by decide) (by decide)
  have k801 := hw_kg m768 k764 (by decide) (by decide)
  have k802 := hw_kg m768 k765 (by decide) (by decide)
  have k803 := hw_kg m768 k733 (by decide) (by decide)
  refine hw_putF (v := .ref q766) (fs' := [.ref q1, .int 0, .ref q12, .int 0, .ref q24, .ref q37, .ref q51, .int 0, .ref q66, .ref q82, .ref q99, .ref q117, .int 0, .ref q136, .int 60, .ref q156, .int 0, .int 0, .ref q177, .ref q199, .int 0, .int 0, .int 0, .int 0, .int 0, .int 0, .int 0, .ref q222, .ref q246, .ref q286, .ref q327, .ref q372, .ref q415, .ref q456, .ref q498, .ref q547, .ref q591, .ref q624, .ref q658, .ref q693, .ref q729, .ref q766, .null, .null, .null]) hx hb ff_96_11 hnm hK hH va (Nat.le_of_ble_eq_true rfl) rfl rfl rfl (fun _ => by rw [k776]; exact (show hw_ok D.2.1 G767 109 _ from ⟨_, rfl⟩)) hS (hw_AWi2 g775 k776 (by decide)) dX12_init_423 (fun H locs hH va oq hz hS => ?_)
  have v8 := va_at.kept v8 (oq _ (hw_ne k777 k776 (by decide)))
  have v19 := va_at.kept v19 (oq _ (hw_ne k778 k776 (by decide)))
  have v773 := va_at.kept v773 (oq _ (hw_ne k770 k776 (by decide)))
  refine lv_aload_n hx hb dX12_init_426 rfl (lv_at hl 0 rfl) ?_
  refine lv_iconst (v := 4) hx hb dX12_init_427 (by decide) ?_
  have hS0 := hS
  refine hw_newa hx hb 82 (atype := .int) (hts (.arrayClass .int) (by decide +kernel)) (ty := .int) rfl (t := 0) rfl (fun _ h9 => h9) hK hH hS (n := 4) (N := 4) (4, .inl (fun _ => 0)) (fun _ => rfl) (show hw_ok D.2.1 G767 82 _ from ⟨_, rfl, fun _ _ => ⟨by decide, by decide⟩⟩) (by decide) (by decide) (by decide) (Nat.le_of_ble_eq_true rfl) (Nat.le_of_ble_eq_true rfl) dX12_init_428 (fun q804 G805 H hH m806 m807 k808 l809 e810 v811 oq hz hS => ?_)
  have w812 : s.heap.size ≤ q804 := by have := hS0.1; omega
  have g813 : ∀ x, x < s.heap.size → G805 x = G x := fun x h9 => (l809 x (Nat.lt_of_lt_of_le h9 hS0.1)).trans (g775 x h9)
  have va := va_at.kept va (oq _ (hw_lt va))
  have v8 := va_at.kept v8 (oq _ (hw_lt v8))
  have v19 := va_at.kept v19 (oq _ (hw_lt v19))
  have v773 := va_at.kept v773 (oq _ (hw_lt v773))
  have k814 := hw_kg2 m807 k776 (by decide)
  have k815 := hw_kg m806 k777 (by decide) (by decide)
  have k816 := hw_kg m806 k778 (by decide) (by decide)
  have k817 := hw_kg m806 k779 (by decide) (by decide)
  have k818 := hw_kg m806 k780 (by decide) (by decide)
  have k819 := hw_kg m806 k781 (by decide) (by decide)
  have k820 := hw_kg m806 k782 (by decide) (by decide)
  have k821 := hw_kg m806 k783 (by decide) (by decide)
  have k822 := hw_kg m806 k784 (by decide) (by decide)
  have k823 := hw_kg m806 k785 (by decide) (by decide)
  have k824 := hw_kg m806 k786 (by decide) (by decide)
  have k825 := hw_kg m806 k787 (by decide) (by decide)
  have k826 := hw_kg m806 k788 (by decide) (by decide)
  have k827 := hw_kg m806 k789 (by decide) (by decide)
  have k828 := hw_kg m806 k790 (by decide) (by decide)
  have k829 := hw_kg m806 k791 (by decide) (by decide)
  have k830 := hw_kg m806 k792 (by decide) (by decide)
  have k831 := hw_kg m806 k793 (by decide) (by decide)
  have k832 := hw_kg m806 k794 (by decide) (by decide)
  have k833 := hw_kg m806 k795 (by decide) (by decide)
  have k834 := hw_kg m806 k796 (by decide) (by decide)
  have k835 := hw_kg m806 k797 (by decide) (by decide)
  have k836 := hw_kg m806 k798 (by decide) (by decide)
  have k837 := hw_kg m806 k799 (by decide) (by decide)
  have k838 := hw_kg m806 k800 (by decide) (by decide)
  have k839 := hw_kg m806 k801 (by decide) (by decide)
  have k840 := hw_kg m806 k802 (by decide) (by decide)
  have k841 := hw_kg m806 k803 (by decide) (by decide)
  have k842 := hw_kg m806 k770 (by decide) (by decide)
  have q843 : ∀ j, j < 4 → (-1) ≤ (((fun _ => 0) : Nat → Int32) j).toInt ∧ (((fun _ => 0) : Nat → Int32) j).toInt ≤ 24 := fun _ _ => (by decide : (-1) ≤ (0 : Int32).toInt ∧ (0 : Int32).toInt ≤ 24)
  refine lv_dup hx hb dX12_init_430 rfl ?_
  refine lv_iconst (v := 0) hx hb dX12_init_431 (by decide) ?_
  refine lv_iconst (v := (-1)) hx hb dX12_init_432 (by decide) ?_
  refine hw_iast hx hb hK hH v811 (hw_in (x := 0) (by decide) (by decide)) (fun _ => by rw [k808]; refine ⟨_, rfl, fun j hj => ?_⟩; unfold upd; split; exact ⟨by first | decide | omega, by first | decide | omega⟩; exact q843 j hj) hS (Or.inr w812) dX12_init_433 (fun H locs hH v811 oq hz hS => ?_)
  have va := va_at.kept va (oq _ (hw_ne k814 k808 (by decide)))
  have v8 := va_at.kept v8 (oq _ (hw_ne k815 k808 (by decide)))
  have v19 := va_at.kept v19 (oq _ (hw_ne k816 k808 (by decide)))
  have v773 := va_at.kept v773 (oq _ (hw_ne k842 k808 (by decide)))
  obtain ⟨f844, e845⟩ : ∃ z, z = upd (fun _ => 0) (0 : Int32).toNatClampNeg (-1) := ⟨_, rfl⟩
  rw [← e845] at v811
  have q846 : ∀ j, j < 4 → (-1) ≤ (f844 j).toInt ∧ (f844 j).toInt ≤ 24 := by
    intro j hj; rw [e845]; unfold upd; split
    · exact ⟨by first | decide | omega, by first | decide | omega⟩
    · exact q843 j hj
  refine lv_dup hx hb dX12_init_434 rfl ?_
  refine lv_iconst (v := 1) hx hb dX12_init_435 (by decide) ?_
  refine lv_iconst (v := (-1)) hx hb dX12_init_436 (by decide) ?_
  refine hw_iast hx hb hK hH v811 (hw_in (x := 1) (by decide) (by decide)) (fun _ => by rw [k808]; refine ⟨_, rfl, fun j hj => ?_⟩; unfold upd; split; exact ⟨by first | decide | omega, by first | decide | omega⟩; exact q846 j hj) hS (Or.inr w812) dX12_init_437 (fun H locs hH v811 oq hz hS => ?_)
  have va := va_at.kept va (oq _ (hw_ne k814 k808 (by decide)))
  have v8 := va_at.kept v8 (oq _ (hw_ne k815 k808 (by decide)))
  have v19 := va_at.kept v19 (oq _ (hw_ne k816 k808 (by decide)))
  have v773 := va_at.kept v773 (oq _ (hw_ne k842 k808 (by decide)))
  obtain ⟨f847, e848⟩ : ∃ z, z = upd f844 (1 : Int32).toNatClampNeg (-1) := ⟨_, rfl⟩
  rw [← e848] at v811
  have q849 : ∀ j, j < 4 → (-1) ≤ (f847 j).toInt ∧ (f847 j).toInt ≤ 24 := by
    intro j hj; rw [e848]; unfold upd; split
    · exact ⟨by first | decide | omega, by first | decide | omega⟩
    · exact q846 j hj
  refine lv_dup hx hb dX12_init_438 rfl ?_
  refine lv_iconst (v := 2) hx hb dX12_init_439 (by decide) ?_
  refine lv_iconst (v := (-1)) hx hb dX12_init_440 (by decide) ?_
  refine hw_iast hx hb hK hH v811 (hw_in (x := 2) (by decide) (by decide)) (fun _ => by rw [k808]; refine ⟨_, rfl, fun j hj => ?_⟩; unfold upd; split; exact ⟨by first | decide | omega, by first | decide | omega⟩; exact q849 j hj) hS (Or.inr w812) dX12_init_441 (fun H locs hH v811 oq hz hS => ?_)
  have va := va_at.kept va (oq _ (hw_ne k814 k808 (by decide)))
  have v8 := va_at.kept v8 (oq _ (hw_ne k815 k808 (by decide)))
  have v19 := va_at.kept v19 (oq _ (hw_ne k816 k808 (by decide)))
  have v773 := va_at.kept v773 (oq _ (hw_ne k842 k808 (by decide)))
  obtain ⟨f850, e851⟩ : ∃ z, z = upd f847 (2 : Int32).toNatClampNeg (-1) := ⟨_, rfl⟩
  rw [← e851] at v811
  have q852 : ∀ j, j < 4 → (-1) ≤ (f850 j).toInt ∧ (f850 j).toInt ≤ 24 := by
    intro j hj; rw [e851]; unfold upd; split
    · exact ⟨by first | decide | omega, by first | decide | omega⟩
    · exact q849 j hj
  refine lv_dup hx hb dX12_init_442 rfl ?_
  refine lv_iconst (v := 3) hx hb dX12_init_443 (by decide) ?_
  refine lv_iconst (v := (-1)) hx hb dX12_init_444 (by decide) ?_
  refine hw_iast hx hb hK hH v811 (hw_in (x := 3) (by decide) (by decide)) (fun _ => by rw [k808]; refine ⟨_, rfl, fun j hj => ?_⟩; unfold upd; split; exact ⟨by first | decide | omega, by first | decide | omega⟩; exact q852 j hj) hS (Or.inr w812) dX12_init_445 (fun H locs hH v811 oq hz hS => ?_)
  have va := va_at.kept va (oq _ (hw_ne k814 k808 (by decide)))
  have v8 := va_at.kept v8 (oq _ (hw_ne k815 k808 (by decide)))
  have v19 := va_at.kept v19 (oq _ (hw_ne k816 k808 (by decide)))
  have v773 := va_at.kept v773 (oq _ (hw_ne k842 k808 (by decide)))
  obtain ⟨f853, e854⟩ : ∃ z, z = upd f850 (3 : Int32).toNatClampNeg (-1) := ⟨_, rfl⟩
  rw [← e854] at v811
  have q855 : ∀ j, j < 4 → (-1) ≤ (f853 j).toInt ∧ (f853 j).toInt ≤ 24 := by
    intro j hj; rw [e854]; unfold upd; split
    · exact ⟨by first | decide | omega, by first | decide | omega⟩
    · exact q852 j hj
  refine hw_putF (v := .ref q804) (fs' := [.ref q1, .int 0, .ref q12, .int 0, .ref q24, .ref q37, .ref q51, .int 0, .ref q66, .ref q82, .ref q99, .ref q117, .int 0, .ref q136, .int 60, .ref q156, .int 0, .int 0, .ref q177, .ref q199, .int 0, .int 0, .int 0, .int 0, .int 0, .int 0, .int 0, .ref q222, .ref q246, .ref q286, .ref q327, .ref q372, .ref q415, .ref q456, .ref q498, .ref q547, .ref q591, .ref q624, .ref q658, .ref q693, .ref q729, .ref q766, .ref q804, .null, .null]) hx hb ff_99_11 hnm hK hH va (Nat.le_of_ble_eq_true rfl) rfl rfl rfl (fun _ => by rw [k814]; exact (show hw_ok D.2.1 G805 109 _ from ⟨_, rfl⟩)) hS (hw_AWi2 g813 k814 (by decide)) dX12_init_446 (fun H locs hH va oq hz hS => ?_)
  have v8 := va_at.kept v8 (oq _ (hw_ne k815 k814 (by decide)))
  have v19 := va_at.kept v19 (oq _ (hw_ne k816 k814 (by decide)))
  have v773 := va_at.kept v773 (oq _ (hw_ne k842 k814 (by decide)))
  have v811 := va_at.kept v811 (oq _ (hw_ne k808 k814 (by decide)))
  refine lv_aload_n hx hb dX12_init_449 rfl (lv_at hl 0 rfl) ?_
  refine lv_bipush (v := 96) hx hb dX12_init_450 (by decide) ?_
  have hS0 := hS
  refine hw_newa hx hb 83 (atype := .long) (hts (.arrayClass .long) (by decide +kernel)) (ty := .long) rfl (t := 1) rfl (fun _ h9 => h9) hK hH hS (n := 96) (N := 96) (96, .inr (.inl (fun _ => 0))) (fun _ => rfl) (show hw_ok D.2.1 G805 83 _ from ⟨_, rfl⟩) (by decide) (by decide) (by decide) (Nat.le_of_ble_eq_true rfl) (Nat.le_of_ble_eq_true rfl) dX12_init_452 (fun q856 G857 H hH m858 m859 k860 l861 e862 v863 oq hz hS => ?_)
  have w864 : s.heap.size ≤ q856 := by have := hS0.1; omega
  have g865 : ∀ x, x < s.heap.size → G857 x = G x := fun x h9 => (l861 x (Nat.lt_of_lt_of_le h9 hS0.1)).trans (g813 x h9)
  have va := va_at.kept va (oq _ (hw_lt va))
  have v8 := va_at.kept v8 (oq _ (hw_lt v8))
  have v19 := va_at.kept v19 (oq _ (hw_lt v19))
  have v773 := va_at.kept v773 (oq _ (hw_lt v773))
  have v811 := va_at.kept v811 (oq _ (hw_lt v811))
  have k866 := hw_kg2 m859 k814 (by decide)
  have k867 := hw_kg m858 k815 (by decide) (by decide)
  have k868 := hw_kg m858 k816 (by decide) (by decide)
  have k869 := hw_kg m858 k817 (by decide) (by decide)
  have k870 := hw_kg m858 k818 (by decide) (by decide)
  have k871 := hw_kg m858 k819 (by decide) (by decide)
  have k872 := hw_kg m858 k820 (by decide) (by decide)
  have k873 := hw_kg m858 k821 (by decide) (by decide)
  have k874 := hw_kg m858 k822 (by decide) (by decide)
  have k875 := hw_kg m858 k823 (by decide) (by decide)
  have k876 := hw_kg m858 k824 (by decide) (by decide)
  have k877 := hw_kg m858 k825 (by decide) (by decide)
  have k878 := hw_kg m858 k826 (by decide) (by decide)
  have k879 := hw_kg m858 k827 (by decide) (by decide)
  have k880 := hw_kg m858 k828 (by decide) (by decide)
  have k881 := hw_kg m858 k829 (by decide) (by decide)
  have k882 := hw_kg m858 k830 (by decide) (by decide)
  have k883 := hw_kg m858 k831 (by decide) (by decide)
  have k884 := hw_kg m858 k832 (by decide) (by decide)
  have k885 := hw_kg m858 k833 (by decide) (by decide)
  have k886 := hw_kg m858 k834 (by decide) (by decide)
  have k887 := hw_kg m858 k835 (by decide) (by decide)
  have k888 := hw_kg m858 k836 (by decide) (by decide)
  have k889 := hw_kg m858 k837 (by decide) (by decide)
  have k890 := hw_kg m858 k838 (by decide) (by decide)
  have k891 := hw_kg m858 k839 (by decide) (by decide)
  have k892 := hw_kg m858 k840 (by decide) (by decide)
  have k893 := hw_kg m858 k841 (by decide) (by decide)
  have k894 := hw_kg m858 k842 (by decide) (by decide)
  have k895 := hw_kg m858 k808 (by decide) (by decide)
  refine hw_putF (v := .ref q856) (fs' := [.ref q1, .int 0, .ref q12, .int 0, .ref q24, .ref q37, .ref q51, .int 0, .ref q66, .ref q82, .ref q99, .ref q117, .int 0, .ref q136, .int 60, .ref q156, .int 0, .int 0, .ref q177, .ref q199, .int 0, .int 0, .int 0, .int 0, .int 0, .int 0, .int 0, .ref q222, .ref q246, .ref q286, .ref q327, .ref q372, .ref q415, .ref q456, .ref q498, .ref q547, .ref q591, .ref q624, .ref q658, .ref q693, .ref q729, .ref q766, .ref q804, .ref q856, .null]) hx hb ff_102_11 hnm hK hH va (Nat.le_of_ble_eq_true rfl) rfl rfl rfl (fun _ => by rw [k866]; exact (show hw_ok D.2.1 G857 109 _ from ⟨_, rfl⟩)) hS (hw_AWi2 g865 k866 (by decide)) dX12_init_454 (fun H locs hH va oq hz hS => ?_)
  have v8 := va_at.kept v8 (oq _ (hw_ne k867 k866 (by decide)))
  have v19 := va_at.kept v19 (oq _ (hw_ne k868 k866 (by decide)))
  have v773 := va_at.kept v773 (oq _ (hw_ne k894 k866 (by decide)))
  have v811 := va_at.kept v811 (oq _ (hw_ne k895 k866 (by decide)))
  refine lv_aload_n hx hb dX12_init_457 rfl (lv_at hl 0 rfl) ?_
  refine lv_bipush (v := 24) hx hb dX12_init_458 (by decide) ?_
  have hS0 := hS
  refine hw_newa hx hb 84 (atype := .long) (hts (.arrayClass .long) (by decide +kernel)) (ty := .long) rfl (t := 1) rfl (fun _ h9 => h9) hK hH hS (n := 24) (N := 24) (24, .inr (.inl (fun _ => 0))) (fun _ => rfl) (show hw_ok D.2.1 G857 84 _ from ⟨_, rfl⟩) (by decide) (by decide) (by decide) (Nat.le_of_ble_eq_true rfl) (Nat.le_of_ble_eq_true rfl) dX12_init_460 (fun q896 G897 H hH m898 m899 k900 l901 e902 v903 oq hz hS => ?_)
  have w904 : s.heap.size ≤ q896 := by have := hS0.1; omega
  have g905 : ∀ x, x < s.heap.size → G897 x = G x := fun x h9 => (l901 x (Nat.lt_of_lt_of_le h9 hS0.1)).trans (g865 x h9)
  have va := va_at.kept va (oq _ (hw_lt va))
  have v8 := va_at.kept v8 (oq _ (hw_lt v8))
  have v19 := va_at.kept v19 (oq _ (hw_lt v19))
  have v773 := va_at.kept v773 (oq _ (hw_lt v773))
  have v811 := va_at.kept v811 (oq _ (hw_lt v811))
  have k906 := hw_kg2 m899 k866 (by decide)
  have k907 := hw_kg m898 k867 (by decide) (by decide)
  have k908 := hw_kg m898 k868 (by decide) (by decide)
  have k909 := hw_kg m898 k869 (by decide) (by decide)
  have k910 := hw_kg m898 k870 (by decide) (by decide)
  have k911 := hw_kg m898 k871 (by decide) (by decide)
  have k912 := hw_kg m898 k872 (by decide) (by decide)
  have k913 := hw_kg m898 k873 (by decide) (by decide)
  have k914 := hw_kg m898 k874 (by decide) (by decide)
  have k915 := hw_kg m898 k875 (by decide) (by decide)
  have k916 := hw_kg m898 k876 (by decide) (by decide)
  have k917 := hw_kg m898 k877 (by decide) (by decide)
  have k918 := hw_kg m898 k878 (by decide) (by decide)
  have k919 := hw_kg m898 k879 (by decide) (by decide)
  have k920 := hw_kg m898 k880 (by decide) (by decide)
  have k921 := hw_kg m898 k881 (by decide) (by decide)
  have k922 := hw_kg m898 k882 (by decide) (by decide)
  have k923 := hw_kg m898 k883 (by decide) (by decide)
  have k924 := hw_kg m898 k884 (by decide) (by decide)
  have k925 := hw_kg m898 k885 (by decide) (by decide)
  have k926 := hw_kg m898 k886 (by decide) (by decide)
  have k927 := hw_kg m898 k887 (by decide) (by decide)
  have k928 := hw_kg m898 k888 (by decide) (by decide)
  have k929 := hw_kg m898 k889 (by decide) (by decide)
  have k930 := hw_kg m898 k890 (by decide) (by decide)
  have k931 := hw_kg m898 k891 (by decide) (by decide)
  have k932 := hw_kg m898 k892 (by decide) (by decide)
  have k933 := hw_kg m898 k893 (by decide) (by decide)
  have k934 := hw_kg m898 k894 (by decide) (by decide)
  have k935 := hw_kg m898 k895 (by decide) (by decide)
  have k936 := hw_kg m898 k860 (by decide) (by decide)
  refine hw_putF (v := .ref q896) (fs' := [.ref q1, .int 0, .ref q12, .int 0, .ref q24, .ref q37, .ref q51, .int 0, .ref q66, .ref q82, .ref q99, .ref q117, .int 0, .ref q136, .int 60, .ref q156, .int 0, .int 0, .ref q177, .ref q199, .int 0, .int 0, .int 0, .int 0, .int 0, .int 0, .int 0, .ref q222, .ref q246, .ref q286, .ref q327, .ref q372, .ref q415, .ref q456, .ref q498, .ref q547, .ref q591, .ref q624, .ref q658, .ref q693, .ref q729, .ref q766, .ref q804, .ref q856, .ref q896]) hx hb ff_106_11 hnm hK hH va (Nat.le_of_ble_eq_true rfl) rfl rfl rfl (fun _ => by rw [k906]; exact (show hw_ok D.2.1 G897 109 _ from ⟨_, rfl⟩)) hS (hw_AWi2 g905 k906 (by decide)) dX12_init_462 (fun H locs hH va oq hz hS => ?_)
  have v8 := va_at.kept v8 (oq _ (hw_ne k907 k906 (by decide)))
  have v19 := va_at.kept v19 (oq _ (hw_ne k908 k906 (by decide)))
  have v773 := va_at.kept v773 (oq _ (hw_ne k934 k906 (by decide)))
  have v811 := va_at.kept v811 (oq _ (hw_ne k935 k906 (by decide)))
  have R937 : hw_RM G897 (fun i9 => [q1, 0, q12, 0, q24, q37, q51, 0, q66, q82, q99, q117, 0, q136, 0, q156, 0, 0, q177, q199, 0, 0, 0, 0, 0, 0, 0, q222, q246, q286, q327, q372, q415, q456, q498, q547, q591, q624, q658, q693, q729, q766, q804, q856, q896].getD i9 0) := ⟨k907, k908, k909, k910, k911, k912, k913, k914, k915, k916, k917, k918, k919, k920, k921, k922, k923, k924, k925, k926, k927, k928, k929, k930, k931, k932, k933, k934, k935, k936, k900⟩
  obtain ⟨hH9, hm9⟩ := hw_HT.rekind (k := 9) hH (by rw [k906]; decide) va (show hw_OM G897 _ from ⟨(fun i9 => [q1, 0, q12, 0, q24, q37, q51, 0, q66, q82, q99, q117, 0, q136, 0, q156, 0, 0, q177, q199, 0, 0, 0, 0, 0, 0, 0, q222, q246, q286, q327, q372, q415, q456, q498, q547, q591, q624, q658, q693, q729, q766, q804, q856, q896].getD i9 0), 0, 0, 0, 0, 60, 0, 0, 0, 0, 0, 0, 0, 0, 0, rfl, R937, ⟨by decide, by decide⟩, ⟨by decide, by decide⟩, ⟨by decide, by decide⟩, ⟨by decide, by decide⟩, ⟨by decide, by decide⟩, ⟨by decide, by decide⟩, ⟨by decide, by decide⟩, ⟨by decide, by decide⟩, ⟨by decide, by decide⟩, ⟨by decide, by decide⟩, ⟨by decide, by decide⟩, ⟨by decide, by decide⟩⟩)
  refine W.widen (k := 31) (n := 2994) (by first | decide | omega) (by first | decide | omega) ?_
  exact hw_vretM hx hb hr hlocks hQ hS ⟨(va_up G897 h0 9), (fun i9 => [q1, 0, q12, 0, q24, q37, q51, 0, q66, q82, q99, q117, 0, q136, 0, q156, 0, 0, q177, q199, 0, 0, 0, 0, 0, 0, 0, q222, q246, q286, q327, q372, q415, q456, q498, q547, q591, q624, q658, q693, q729, q766, q804, q856, q896].getD i9 0), (fun _ => 0), (fun _ => 0), (fun _ => 0), f853, rfl, hH9, (fun q9 h9 n9 => (va_up_ne _ _ n9).trans (g905 q9 h9)), (va_up_self _ _ _), (hw_RM_mono hm9 R937), va, v8, (fun _ => rfl), v19, (fun _ => rfl), v773, v811, (fun j hj => by rcases (show j = 0 ∨ j = 1 ∨ j = 2 ∨ j = 3 by omega) with rfl | rfl | rfl | rfl <;> (rw [e854, e851, e848, e845]; rfl))⟩ dX12_init_465
