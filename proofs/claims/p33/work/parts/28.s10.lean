set_option maxHeartbeats 4000000 in
set_option maxRecDepth 100000 in
theorem k3_X7_init (l : Launch) (D : hw_D) (G : Nat → Nat) (h0 : Nat) (sz : Nat) (G0 : G h0 = 106) : Met l yX7_init wsX7_init ({ frames := 1, cells := 1, slots := 24, locals := 12 } : Room) (hw_PC D G [.ref h0] sz (fun H => va_at D.1 vwCl (h0, .inr (6, [.null, .int 0, .int 0])) H)) (hw_QM (fun v H => ∃ (G2 : Nat → Nat) (r2 : Nat → Nat), v = none ∧ hw_HT D G2 H ∧ (∀ q, q < sz → q ≠ h0 → G2 q = G q) ∧ G2 h0 = 6 ∧ hw_RK G2 r2 ∧ va_at D.1 vwCl (h0, .inr (6, hw_LK r2 (-1) 0)) H ∧ sz ≤ r2 0 ∧ va_at D.1 vwCl (r2 0, .inl (D.2.1 1, 24, .inr (.inl (fun _ => 0)))) H) (hw_AW G [106] sz)) 1 24 (hw_AW G [106] sz) := by
  refine hw_met (cc := cX7_init) (maxL := 1) (ret := none) (plainFor_of_name (by decide)) rfl (Nat.le_of_ble_eq_true rfl) ?_
  intro p e s m args below meth c QQ ls hsz hx hb hml hr hts hown hlocks hnm hH hK hST hF hQ hl
  subst hsz
  have hS : va_S (hw_AW G [106] s.heap.size) s.heap s.heap [] := va_S.rf
  have va := hF
  have hl : lv_has ls 1 [(0, .ref h0)] := hl
  have u_6 : ∀ w ∈ u_ws RX7 TX7 3, w.before args s = true := fun w hw => hts w ((by decide +kernel : ∀ w ∈ u_ws RX7 TX7 3, w ∈ wsX7_init) w hw)
  have ff_9_6 : hw_FP s args m 9 6 0 true (.array .long) := ⟨RX7, "WardWalkers$Rack", RX7, TX7, 3, tyX7, u_6, hown, rfl, by decide, (hts (.fieldLink RX7 9 "WardWalkers$Rack" "things" "[J") (by decide +kernel)), (fun _ h9 => h9), tyX7_ok, nmX7, rfl, fun _ => rfl, by decide +kernel⟩
  have fp_15_6 : hw_FP s args m 15 6 1 false .int := ⟨RX7, "WardWalkers$Rack", RX7, TX7, 3, tyX7, u_6, hown, rfl, by decide, (hts (.fieldLink RX7 15 "WardWalkers$Rack" "lane" "I") (by decide +kernel)), (fun _ h9 => h9), tyX7_ok, nmX7, rfl, (fun h => by cases h), by decide +kernel⟩
  have hHs := hH
  refine lv_aload_n hx hb dX7_init_0 rfl (lv_at hl 0 rfl) ?_
  refine W.objInit hx hb hown (hts (.methodLink RX7 3 objectInit) (by decide +kernel)) (hts (.instanceMethod objectInit) (by decide +kernel)) (hts (.code objectInit ⟨#[0xb1]⟩ 1 none) (by decide +kernel)) rfl (by rw [hml]; exact hl.1) rfl dX7_init_1 (Nat.le_of_ble_eq_true rfl) (Nat.le_of_ble_eq_true rfl) ?_
  refine W.eq (g2 := F0 m 4 ls []) rfl ?_
  refine lv_aload_n hx hb dX7_init_4 rfl (lv_at hl 0 rfl) ?_
  refine lv_bipush (v := 24) hx hb dX7_init_5 (by decide) ?_
  have hS0 := hS
  refine hw_newa hx hb 19 (atype := .long) (hts (.arrayClass .long) (by decide +kernel)) (ty := .long) rfl (t := 1) rfl (fun _ h9 => h9) hK hH hS (n := 24) (N := 24) (24, .inr (.inl (fun _ => 0))) (fun _ => rfl) (show hw_ok D.2.1 G 19 _ from ⟨_, rfl⟩) (by decide) (by decide) (by decide) (Nat.le_of_ble_eq_true rfl) (Nat.le_of_ble_eq_true rfl) dX7_init_7 (fun q1 G2 H hH m3 m4 k5 l6 e7 v8 oq hz hS => ?_)
  have w9 : s.heap.size ≤ q1 := by have := hS0.1; omega
  have g10 : ∀ x, x < s.heap.size → G2 x = G x := fun x h9 => (l6 x (Nat.lt_of_lt_of_le h9 hS0.1)).trans ((fun _ _ => rfl) x h9)
  have va := va_at.kept va (oq _ (hw_lt va))
  have k11 := hw_kg2 m4 G0 (by decide)
  refine hw_putF (v := .ref q1) (fs' := [.ref q1, .int 0, .int 0]) hx hb ff_9_6 hnm hK hH va (Nat.le_of_ble_eq_true rfl) rfl rfl rfl (fun _ => by rw [k11]; exact (show hw_ok D.2.1 G2 106 _ from ⟨_, rfl⟩)) hS (hw_AWi2 g10 k11 (by decide)) dX7_init_9 (fun H locs hH va oq hz hS => ?_)
  have v8 := va_at.kept v8 (oq _ (hw_ne k5 k11 (by decide)))
  refine lv_aload_n hx hb dX7_init_12 rfl (lv_at hl 0 rfl) ?_
  refine lv_iconst (v := (-1)) hx hb dX7_init_13 (by decide) ?_
  refine hw_put (v := .int (-1)) (fs' := [.ref q1, .int (-1), .int 0]) hx hb fp_15_6 hK hH va (Nat.le_of_ble_eq_true rfl) rfl rfl rfl (fun _ => by rw [k11]; exact (show hw_ok D.2.1 G2 106 _ from ⟨_, rfl⟩)) hS (hw_AWi2 g10 k11 (by decide)) dX7_init_14 (fun H locs hH va oq hz hS => ?_)
  have v8 := va_at.kept v8 (oq _ (hw_ne k5 k11 (by decide)))
  have R12 : hw_RK G2 (fun i9 => [q1, 0, 0].getD i9 0) := k5
  obtain ⟨hH9, hm9⟩ := hw_HT.rekind (k := 6) hH (by rw [k11]; decide) va (show hw_OK G2 _ from ⟨(fun i9 => [q1, 0, 0].getD i9 0), (-1), 0, rfl, R12⟩)
  refine W.widen (k := 1) (n := 24) (by first | decide | omega) (by first | decide | omega) ?_
  exact hw_vretM hx hb hr hlocks hQ hS ⟨(va_up G2 h0 6), (fun i9 => [q1, 0, 0].getD i9 0), rfl, hH9, (fun q9 h9 n9 => (va_up_ne _ _ n9).trans (g10 q9 h9)), (va_up_self _ _ _), (hw_RK_mono hm9 R12), va, w9, v8⟩ dX7_init_17

set_option maxHeartbeats 40000000 in
set_option maxRecDepth 100000 in
theorem k3_X11_init (l : Launch) (D : hw_D) (G : Nat → Nat) (h0 : Nat) (sz : Nat) (G0 : G h0 = 101) : Met l yX11_init wsX11_init ({ frames := 2, cells := 92, slots := 3584, locals := 32 } : Room) (hw_PC D G [.ref h0] sz (fun H => va_at D.1 vwCl (h0, .inr (10, [.null, .null, .null, .null, .int 0, .int 0, .null, .null, .int 0, .null, .null, .int 0, .null, .null])) H)) (hw_QM (fun v H => ∃ (G2 : Nat → Nat) (r2 : Nat → Nat) (rc : Nat → Nat) (rt : Nat → Nat) (rn : Nat → Nat) (fq : Nat → Option Nat) (th : Nat → Nat), v = none ∧ hw_HT D G2 H ∧ (∀ q, q < sz → q ≠ h0 → G2 q = G q) ∧ G2 h0 = 1 ∧ hw_RX G2 r2 ∧ va_at D.1 vwCl (h0, .inr (10, hw_LX r2 0 0 0 0)) H ∧ hw_RC G2 rc ∧ va_at D.1 vwCl (r2 0, .inr (1, hw_LC rc 0 0 0 60)) H ∧ hw_RT G2 rt ∧ va_at D.1 vwCl (r2 1, .inr (9, hw_LT rt 0 0 0 0 0 0 0)) H ∧ hw_RS G2 rn ∧ va_at D.1 vwCl (r2 2, .inr (8, hw_LS rn 0 0 0)) H ∧ va_at D.1 vwCl (r2 13, .inl (D.2.1 7, 4, .inr (.inr (.inr (.inr fq))))) H ∧ hw_RK3 D G2 fq th (fun _ => -1) (fun _ => 0) (fun _ _ => 0) H) (hw_AW G [101, 102, 105, 106, 107, 108, 127, 128, 129, 132] sz)) 92 3584 (hw_AW G [101, 102, 105, 106, 107, 108, 127, 128, 129, 132] sz) := by
  refine hw_met (cc := cX11_init) (maxL := 2) (ret := none) (plainFor_of_name (by decide)) rfl (Nat.le_of_ble_eq_true rfl) ?_
  intro p e s m args below meth c QQ ls hsz hx hb hml hr hts hown hlocks hnm hH hK hST hF hQ hl
  subst hsz
  have hS : va_S (hw_AW G [101, 102, 105, 106, 107, 108, 127, 128, 129, 132] s.heap.size) s.heap s.heap [] := va_S.rf
  have va := hF
  have hl : lv_has ls 2 [(0, .ref h0)] := hl
  have u_10 : ∀ w ∈ u_ws RX11 TX11 14, w.before args s = true := fun w hw => hts w ((by decide +kernel : ∀ w ∈ u_ws RX11 TX11 14, w ∈ wsX11_init) w hw)
  have ff_10_10 : hw_FP s args m 10 10 0 true (.object "WardWalkers$Country") := ⟨RX11, "WardWalkers", RX11, TX11, 14, tyX11, u_10, hown, rfl, by decide, (hts (.fieldLink RX11 10 "WardWalkers" "country" "LWardWalkers$Country;") (by decide +kernel)), (fun _ h9 => h9), tyX11_ok, nmX11, rfl, fun _ => rfl, by decide +kernel⟩
  have ff_19_10 : hw_FP s args m 19 10 1 true (.object "WardWalkers$Text") := ⟨RX11, "WardWalkers", RX11, TX11, 14, tyX11, u_10, hown, rfl, by decide, (hts (.fieldLink RX11 19 "WardWalkers" "text" "LWardWalkers$Text;") (by decide +kernel)), (fun _ h9 => h9), tyX11_ok, nmX11, rfl, fun _ => rfl, by decide +kernel⟩
  have ff_26_10 : hw_FP s args m 26 10 2 true (.object "WardWalkers$Standing") := ⟨RX11, "WardWalkers", RX11, TX11, 14, tyX11, u_10, hown, rfl, by decide, (hts (.fieldLink RX11 26 "WardWalkers" "now" "LWardWalkers$Standing;") (by decide +kernel)), (fun _ h9 => h9), tyX11_ok, nmX11, rfl, fun _ => rfl, by decide +kernel⟩
  have ff_30_10 : hw_FP s args m 30 10 3 true (.array (.object "WardWalkers$Standing")) := ⟨RX11, "WardWalkers", RX11, TX11, 14, tyX11, u_10, hown, rfl, by decide, (hts (.fieldLink RX11 30 "WardWalkers" "past" "[LWardWalkers$Standing;") (by decide +kernel)), (fun _ h9 => h9), tyX11_ok, nmX11, rfl, fun _ => rfl, by decide +kernel⟩
  have ff_34_10 : hw_FP s args m 34 10 6 true (.array (.object "WardWalkers$Standing")) := ⟨RX11, "WardWalkers", RX11, TX11, 14, tyX11, u_10, hown, rfl, by decide, (hts (.fieldLink RX11 34 "WardWalkers" "keptStandings" "[LWardWalkers$Standing;") (by decide +kernel)), (fun _ h9 => h9), tyX11_ok, nmX11, rfl, fun _ => rfl, by decide +kernel⟩
  have ff_37_10 : hw_FP s args m 37 10 7 true (.array (.object "WardWalkers$Text")) := ⟨RX11, "WardWalkers", RX11, TX11, 14, tyX11, u_10, hown, rfl, by decide, (hts (.fieldLink RX11 37 "WardWalkers" "keptTexts" "[LWardWalkers$Text;") (by decide +kernel)), (fun _ h9 => h9), tyX11_ok, nmX11, rfl, fun _ => rfl, by decide +kernel⟩
  have ff_41_10 : hw_FP s args m 41 10 9 true (.array .int) := ⟨RX11, "WardWalkers", RX11, TX11, 14, tyX11, u_10, hown, rfl, by decide, (hts (.fieldLink RX11 41 "WardWalkers" "seenLocks" "[I") (by decide +kernel)), (fun _ h9 => h9), tyX11_ok, nmX11, rfl, fun _ => rfl, by decide +kernel⟩
  have ff_45_10 : hw_FP s args m 45 10 10 true (.array .int) := ⟨RX11, "WardWalkers", RX11, TX11, 14, tyX11, u_10, hown, rfl, by decide, (hts (.fieldLink RX11 45 "WardWalkers" "seenWent" "[I") (by decide +kernel)), (fun _ h9 => h9), tyX11_ok, nmX11, rfl, fun _ => rfl, by decide +kernel⟩
  have ff_51_10 : hw_FP s args m 51 10 12 true (.object "WardWalkers$Planner") := ⟨RX11, "WardWalkers", RX11, TX11, 14, tyX11, u_10, hown, rfl, by decide, (hts (.fieldLink RX11 51 "WardWalkers" "planner" "LWardWalkers$Planner;") (by decide +kernel)), (fun _ h9 => h9), tyX11_ok, nmX11, rfl, fun _ => rfl, by decide +kernel⟩
  have ff_57_10 : hw_FP s args m 57 10 13 true (.array (.object "WardWalkers$Rack")) := ⟨RX11, "WardWalkers", RX11, TX11, 14, tyX11, u_10, hown, rfl, by decide, (hts (.fieldLink RX11 57 "WardWalkers" "racks" "[LWardWalkers$Rack;") (by decide +kernel)), (fun _ h9 => h9), tyX11_ok, nmX11, rfl, fun _ => rfl, by decide +kernel⟩
  have fg_30_10 : hw_FG s args m 30 10 3 := ⟨RX11, "WardWalkers", RX11, TX11, 14, u_10, hown, rfl, by decide, (hts (.fieldLink RX11 30 "WardWalkers" "past" "[LWardWalkers$Standing;") (by decide +kernel)), (fun _ h9 => h9)⟩
  have fg_34_10 : hw_FG s args m 34 10 6 := ⟨RX11, "WardWalkers", RX11, TX11, 14, u_10, hown, rfl, by decide, (hts (.fieldLink RX11 34 "WardWalkers" "keptStandings" "[LWardWalkers$Standing;") (by decide +kernel)), (fun _ h9 => h9)⟩
  have fg_37_10 : hw_FG s args m 37 10 7 := ⟨RX11, "WardWalkers", RX11, TX11, 14, u_10, hown, rfl, by decide, (hts (.fieldLink RX11 37 "WardWalkers" "keptTexts" "[LWardWalkers$Text;") (by decide +kernel)), (fun _ h9 => h9)⟩
  have fg_57_10 : hw_FG s args m 57 10 13 := ⟨RX11, "WardWalkers", RX11, TX11, 14, u_10, hown, rfl, by decide, (hts (.fieldLink RX11 57 "WardWalkers" "racks" "[LWardWalkers$Rack;") (by decide +kernel)), (fun _ h9 => h9)⟩
  have hHs := hH
  refine lv_aload_n hx hb dX11_init_0 rfl (lv_at hl 0 rfl) ?_
  refine W.objInit hx hb hown (hts (.methodLink RX11 1 objectInit) (by decide +kernel)) (hts (.instanceMethod objectInit) (by decide +kernel)) (hts (.code objectInit ⟨#[0xb1]⟩ 1 none) (by decide +kernel)) rfl (by rw [hml]; exact hl.1) rfl dX11_init_1 (Nat.le_of_ble_eq_true rfl) (Nat.le_of_ble_eq_true rfl) ?_
  refine W.eq (g2 := F0 m 4 ls []) rfl ?_
  refine lv_aload_n hx hb dX11_init_4 rfl (lv_at hl 0 rfl) ?_
  have hS0 := hS
  refine hw_new hx hb 102 (ci := 1) (C := RX1) (T := TX1) (N := 7) hts (by decide +kernel) tyX1 tyX1_ok hown (hts (.classLink RX11 7 RX1) (by decide +kernel)) (hts (.instantiable RX1 7) (by decide +kernel)) (hts (.initialized RX1) (by decide +kernel)) hK hH hS rfl [.null, .int 0, .null, .int 0, .null, .int 0, .int 0] (fun j hj => by rcases (show j = 0 ∨ j = 1 ∨ j = 2 ∨ j = 3 ∨ j = 4 ∨ j = 5 ∨ j = 6 by omega) with rfl | rfl | rfl | rfl | rfl | rfl | rfl <;> rfl) (show hw_ok D.2.1 G 102 _ from ⟨_, rfl⟩) (Nat.le_of_ble_eq_true rfl) (Nat.le_of_ble_eq_true rfl) dX11_init_5 (fun q1 G2 H hH m3 m4 k5 l6 e7 v8 oq hz hS => ?_)
  have w9 : s.heap.size ≤ q1 := by have := hS0.1; omega
  have g10 : ∀ x, x < s.heap.size → G2 x = G x := fun x h9 => (l6 x (Nat.lt_of_lt_of_le h9 hS0.1)).trans ((fun _ _ => rfl) x h9)
  have va := va_at.kept va (oq _ (hw_lt va))
  have k11 := hw_kg2 m4 G0 (by decide)
  refine lv_dup hx hb dX11_init_8 rfl ?_
  have hHo := hH
  have hS0 := hS
  refine hw_cM (va_runIN (As := []) (rest := [.ref q1, .ref h0]) ⟨hx, hb, hml, hown, hts⟩ (k_X1_init l D G2 q1 _ k5) ⟨va_cnB 0 hts gX11_init_X1_init_n9 rfl rfl rfl (hw_en9 hST.ex) (hts (.initialized RX1) (by decide +kernel)) (by decide +kernel) ⟨Nat.le_of_ble_eq_true rfl, Nat.le_of_ble_eq_true rfl⟩, rfl, hts (.instanceMethod yX1_init) (by decide +kernel)⟩ (hw_pS hH hK hST hS (by decide) (hw_hG g10) v8) rfl rfl hl.1 rfl (lv_room (Nat.le_of_ble_eq_true rfl)) dX11_init_9 ⟨Nat.le_of_ble_eq_true rfl, Nat.le_of_ble_eq_true rfl⟩) hS (hw_AWsub (by decide) g10 hS.1) (fun v H locs hp hz hk hS => ?_)
  obtain ⟨G12, r15, rfl, hH, i13, k14, R16, v17⟩ := hp
  have va := va_at.kept va (hk _ (hw_lt va) (hw_AWn k11 (by decide) (hw_lt va)))
  have m18 : ∀ a, G2 a ≠ 0 → G2 a < 100 → G12 a = G2 a := fun a h0 h1 => i13 a (hHo.lt h0) (fun e => by rw [e, k5] at h1; exact absurd h1 (by decide))
  have g19 : ∀ x, x < s.heap.size → G12 x = G x := fun x h9 => (i13 x (Nat.lt_of_lt_of_le h9 hS0.1) (fun e => by have := w9; omega)).trans (g10 x h9)
  have k20 := hw_kg3 i13 hHo k5 k11 (by decide) (by decide)
  refine hw_putF (v := .ref q1) (fs' := [.ref q1, .null, .null, .null, .int 0, .int 0, .null, .null, .int 0, .null, .null, .int 0, .null, .null]) hx hb ff_10_10 hnm hK hH va (Nat.le_of_ble_eq_true rfl) rfl rfl rfl (fun _ => by rw [k20]; exact (show hw_ok D.2.1 G12 101 _ from ⟨_, rfl⟩)) hS (hw_AWi2 g19 k20 (by decide)) dX11_init_12 (fun H locs hH va oq hz hS => ?_)
  have v17 := va_at.kept v17 (oq _ (hw_ne k14 k20 (by decide)))
  refine lv_aload_n hx hb dX11_init_15 rfl (lv_at hl 0 rfl) ?_
  have hS0 := hS
  refine hw_new hx hb 108 (ci := 9) (C := RX10) (T := TX10) (N := 10) hts (by decide +kernel) tyX10 tyX10_ok hown (hts (.classLink RX11 16 RX10) (by decide +kernel)) (hts (.instantiable RX10 10) (by decide +kernel)) (hts (.initialized RX10) (by decide +kernel)) hK hH hS rfl [.null, .int 0, .int 0, .null, .null, .int 0, .int 0, .int 0, .int 0, .int 0] (fun j hj => by rcases (show j = 0 ∨ j = 1 ∨ j = 2 ∨ j = 3 ∨ j = 4 ∨ j = 5 ∨ j = 6 ∨ j = 7 ∨ j = 8 ∨ j = 9 by omega) with rfl | rfl | rfl | rfl | rfl | rfl | rfl | rfl | rfl | rfl <;> rfl) (show hw_ok D.2.1 G12 108 _ from ⟨_, rfl⟩) (Nat.le_of_ble_eq_true rfl) (Nat.le_of_ble_eq_true rfl) dX11_init_16 (fun q21 G22 H hH m23 m24 k25 l26 e27 v28 oq hz hS => ?_)
  have w29 : s.heap.size ≤ q21 := by have := hS0.1; omega
  have g30 : ∀ x, x < s.heap.size → G22 x = G x := fun x h9 => (l26 x (Nat.lt_of_lt_of_le h9 hS0.1)).trans (g19 x h9)
  have va := va_at.kept va (oq _ (hw_lt va))
  have v17 := va_at.kept v17 (oq _ (hw_lt v17))
  have k31 := hw_kg2 m24 k20 (by decide)
  have k32 := hw_kg m23 k14 (by decide) (by decide)
  have R33 := hw_RC_mono m23 R16
  refine lv_dup hx hb dX11_init_19 rfl ?_
  have hHo := hH
  have hS0 := hS
  refine hw_cM (va_runIN (As := []) (rest := [.ref q21, .ref h0]) ⟨hx, hb, hml, hown, hts⟩ (k_X10_init l D G22 q21 _ k25) ⟨va_cnB 0 hts gX11_init_X10_init_n18 rfl rfl rfl (hw_en18 hST.ex) (hts (.initialized RX10) (by decide +kernel)) (by decide +kernel) ⟨Nat.le_of_ble_eq_true rfl, Nat.le_of_ble_eq_true rfl⟩, rfl, hts (.instanceMethod yX10_init) (by decide +kernel)⟩ (hw_pS hH hK hST hS (by decide) (hw_hG g30) v28) rfl rfl hl.1 rfl (lv_room (Nat.le_of_ble_eq_true rfl)) dX11_init_20 ⟨Nat.le_of_ble_eq_true rfl, Nat.le_of_ble_eq_true rfl⟩) hS (hw_AWsub (by decide) g30 hS.1) (fun v H locs hp hz hk hS => ?_)
  obtain ⟨G34, r37, rfl, hH, i35, k36, R38, v39⟩ := hp
  have va := va_at.kept va (hk _ (hw_lt va) (hw_AWn k31 (by decide) (hw_lt va)))
  have v17 := va_at.kept v17 (hk _ (hw_lt v17) (hw_AWn k32 (by decide) (hw_lt v17)))
  have m40 : ∀ a, G22 a ≠ 0 → G22 a < 100 → G34 a = G22 a := fun a h0 h1 => i35 a (hHo.lt h0) (fun e => by rw [e, k25] at h1; exact absurd h1 (by decide))
  have g41 : ∀ x, x < s.heap.size → G34 x = G x := fun x h9 => (i35 x (Nat.lt_of_lt_of_le h9 hS0.1) (fun e => by have := w29; omega)).trans (g30 x h9)
  have k42 := hw_kg3 i35 hHo k25 k31 (by decide) (by decide)
  have k43 := hw_kg m40 k32 (by decide) (by decide)
  have R44 := hw_RC_mono m40 R33
  refine hw_putF (v := .ref q21) (fs' := [.ref q1, .ref q21, .null, .null, .int 0, .int 0, .null, .null, .int 0, .null, .null, .int 0, .null, .null]) hx hb ff_19_10 hnm hK hH va (Nat.le_of_ble_eq_true rfl) rfl rfl rfl (fun _ => by rw [k42]; exact (show hw_ok D.2.1 G34 101 _ from ⟨_, rfl⟩)) hS (hw_AWi2 g41 k42 (by decide)) dX11_init_23 (fun H locs hH va oq hz hS => ?_)
  have v17 := va_at.kept v17 (oq _ (hw_ne k43 k42 (by decide)))
  have v39 := va_at.kept v39 (oq _ (hw_ne k36 k42 (by decide)))
  refine lv_aload_n hx hb dX11_init_26 rfl (lv_at hl 0 rfl) ?_
  have hS0 := hS
  refine hw_new hx hb 107 (ci := 8) (C := RX9) (T := TX9) (N := 7) hts (by decide +kernel) tyX9 tyX9_ok hown (hts (.classLink RX11 23 RX9) (by decide +kernel)) (hts (.instantiable RX9 7) (by decide +kernel)) (hts (.initialized RX9) (by decide +kernel)) hK hH hS rfl [.int 0, .int 0, .int 0, .null, .null, .null, .null] (fun j hj => by rcases (show j = 0 ∨ j = 1 ∨ j = 2 ∨ j = 3 ∨ j = 4 ∨ j = 5 ∨ j = 6 by omega) with rfl | rfl | rfl | rfl | rfl | rfl | rfl <;> rfl) (show hw_ok D.2.1 G34 107 _ from ⟨_, rfl⟩) (Nat.le_of_ble_eq_true rfl) (Nat.le_of_ble_eq_true rfl) dX11_init_27 (fun q45 G46 H hH m47 m48 k49 l50 e51 v52 oq hz hS => ?_)
  have w53 : s.heap.size ≤ q45 := by have := hS0.1; omega
  have g54 : ∀ x, x < s.heap.size → G46 x = G x := fun x h9 => (l50 x (Nat.lt_of_lt_of_le h9 hS0.1)).trans (g41 x h9)
  have va := va_at.kept va (oq _ (hw_lt va))
  have v17 := va_at.kept v17 (oq _ (hw_lt v17))
  have v39 := va_at.kept v39 (oq _ (hw_lt v39))
  have k55 := hw_kg2 m48 k42 (by decide)
  have k56 := hw_kg m47 k43 (by decide) (by decide)
  have k57 := hw_kg m47 k36 (by decide) (by decide)
  have R58 := hw_RC_mono m47 R44
  have R59 := hw_RT_mono m47 R38
  refine lv_dup hx hb dX11_init_30 rfl ?_
  have hHo := hH
  have hS0 := hS
  refine hw_cM (va_runIN (As := []) (rest := [.ref q45, .ref h0]) ⟨hx, hb, hml, hown, hts⟩ (k_X9_init l D G46 q45 _ k49) ⟨va_cnB 0 hts gX11_init_X9_init_n25 rfl rfl rfl (hw_en25 hST.ex) (hts (.initialized RX9) (by decide +kernel)) (by decide +kernel) ⟨Nat.le_of_ble_eq_true rfl, Nat.le_of_ble_eq_true rfl⟩, rfl, hts (.instanceMethod yX9_init) (by decide +kernel)⟩ (hw_pS hH hK hST hS (by decide) (hw_hG g54) v52) rfl rfl hl.1 rfl (lv_room (Nat.le_of_ble_eq_true rfl)) dX11_init_31 ⟨Nat.le_of_ble_eq_true rfl, Nat.le_of_ble_eq_true rfl⟩) hS (hw_AWsub (by decide) g54 hS.1) (fun v H locs hp hz hk hS => ?_)
  obtain ⟨G60, r63, rfl, hH, i61, k62, R64, v65⟩ := hp
  have va := va_at.kept va (hk _ (hw_lt va) (hw_AWn k55 (by decide) (hw_lt va)))
  have v17 := va_at.kept v17 (hk _ (hw_lt v17) (hw_AWn k56 (by decide) (hw_lt v17)))
  have v39 := va_at.kept v39 (hk _ (hw_lt v39) (hw_AWn k57 (by decide) (hw_lt v39)))
  have m66 : ∀ a, G46 a ≠ 0 → G46 a < 100 → G60 a = G46 a := fun a h0 h1 => i61 a (hHo.lt h0) (fun e => by rw [e, k49] at h1; exact absurd h1 (by decide))
  have g67 : ∀ x, x < s.heap.size → G60 x = G x := fun x h9 => (i61 x (Nat.lt_of_lt_of_le h9 hS0.1) (fun e => by have := w53; omega)).trans (g54 x h9)
  have k68 := hw_kg3 i61 hHo k49 k55 (by decide) (by decide)
  have k69 := hw_kg m66 k56 (by decide) (by decide)
  have k70 := hw_kg m66 k57 (by decide) (by decide)
  have R71 := hw_RC_mono m66 R58
  have R72 := hw_RT_mono m66 R59
  refine hw_putF (v := .ref q45) (fs' := [.ref q1, .ref q21, .ref q45, .null, .int 0, .int 0, .null, .null, .int 0, .null, .null, .int 0, .null, .null]) hx hb ff_26_10 hnm hK hH va (Nat.le_of_ble_eq_true rfl) rfl rfl rfl (fun _ => by rw [k68]; exact (show hw_ok D.2.1 G60 101 _ from ⟨_, rfl⟩)) hS (hw_AWi2 g67 k68 (by decide)) dX11_init_34 (fun H locs hH va oq hz hS => ?_)
  have v17 := va_at.kept v17 (oq _ (hw_ne k69 k68 (by decide)))
  have v39 := va_at.kept v39 (oq _ (hw_ne k70 k68 (by decide)))
  have v65 := va_at.kept v65 (oq _ (hw_ne k62 k68 (by decide)))
  refine lv_aload_n hx hb dX11_init_37 rfl (lv_at hl 0 rfl) ?_
  refine lv_bipush (v := 8) hx hb dX11_init_38 (by decide) ?_
  have hS0 := hS
  refine hw_newq hx hb 127 hown (hts (.classLink RX11 23 RX9) (by decide +kernel)) (hw_eo_Standing hST.ex) (t := 5) rfl hK hH hS (n := 8) (N := 8) (show hw_ok D.2.1 G60 127 _ from ⟨_, rfl, fun _ _ _ h9 => by cases h9⟩) (by decide) (by decide) (by decide) (Nat.le_of_ble_eq_true rfl) (Nat.le_of_ble_eq_true rfl) dX11_init_40 (fun q73 G74 H hH m75 m76 k77 l78 e79 v80 oq hz hS => ?_)
  have w81 : s.heap.size ≤ q73 := by have := hS0.1; omega
  have g82 : ∀ x, x < s.heap.size → G74 x = G x := fun x h9 => (l78 x (Nat.lt_of_lt_of_le h9 hS0.1)).trans (g67 x h9)
  have va := va_at.kept va (oq _ (hw_lt va))
  have v17 := va_at.kept v17 (oq _ (hw_lt v17))
  have v39 := va_at.kept v39 (oq _ (hw_lt v39))
  have v65 := va_at.kept v65 (oq _ (hw_lt v65))
  have k83 := hw_kg2 m76 k68 (by decide)
  have k84 := hw_kg m75 k69 (by decide) (by decide)
  have k85 := hw_kg m75 k70 (by decide) (by decide)
  have k86 := hw_kg m75 k62 (by decide) (by decide)
  have R87 := hw_RC_mono m75 R71
  have R88 := hw_RT_mono m75 R72
  have R89 := hw_RS_mono m75 R64
  have q90 : ∀ j b, j < 8 → (fun _ => none) j = some b → G74 b = 7 := fun _ _ _ h9 => by cases h9
  refine hw_putF (v := .ref q73) (fs' := [.ref q1, .ref q21, .ref q45, .ref q73, .int 0, .int 0, .null, .null, .int 0, .null, .null, .int 0, .null, .null]) hx hb ff_30_10 hnm hK hH va (Nat.le_of_ble_eq_true rfl) rfl rfl rfl (fun _ => by rw [k83]; exact (show hw_ok D.2.1 G74 101 _ from ⟨_, rfl⟩)) hS (hw_AWi2 g82 k83 (by decide)) dX11_init_43 (fun H locs hH va oq hz hS => ?_)
  have v17 := va_at.kept v17 (oq _ (hw_ne k84 k83 (by decide)))
  have v39 := va_at.kept v39 (oq _ (hw_ne k85 k83 (by decide)))
  have v65 := va_at.kept v65 (oq _ (hw_ne k86 k83 (by decide)))
  have v80 := va_at.kept v80 (oq _ (hw_ne k77 k83 (by decide)))
  refine lv_aload_n hx hb dX11_init_46 rfl (lv_at hl 0 rfl) ?_
  refine lv_iconst (v := 2) hx hb dX11_init_47 (by decide) ?_
  have hS0 := hS
  refine hw_newq hx hb 128 hown (hts (.classLink RX11 23 RX9) (by decide +kernel)) (hw_eo_Standing hST.ex) (t := 5) rfl hK hH hS (n := 2) (N := 2) (show hw_ok D.2.1 G74 128 _ from ⟨_, rfl, fun _ _ _ h9 => by cases h9⟩) (by decide) (by decide) (by decide) (Nat.le_of_ble_eq_true rfl) (Nat.le_of_ble_eq_true rfl) dX11_init_48 (fun q91 G92 H hH m93 m94 k95 l96 e97 v98 oq hz hS => ?_)
  have w99 : s.heap.size ≤ q91 := by have := hS0.1; omega
  have g100 : ∀ x, x < s.heap.size → G92 x = G x := fun x h9 => (l96 x (Nat.lt_of_lt_of_le h9 hS0.1)).trans (g82 x h9)
  have va := va_at.kept va (oq _ (hw_lt va))
  have v17 := va_at.kept v17 (oq _ (hw_lt v17))
  have v39 := va_at.kept v39 (oq _ (hw_lt v39))
  have v65 := va_at.kept v65 (oq _ (hw_lt v65))
  have v80 := va_at.kept v80 (oq _ (hw_lt v80))
  have k101 := hw_kg2 m94 k83 (by decide)
  have k102 := hw_kg m93 k84 (by decide) (by decide)
  have k103 := hw_kg m93 k85 (by decide) (by decide)
  have k104 := hw_kg m93 k86 (by decide) (by decide)
  have k105 := hw_kg2 m94 k77 (by decide)
  have R106 := hw_RC_mono m93 R87
  have R107 := hw_RT_mono m93 R88
  have R108 := hw_RS_mono m93 R89
  have q109 := hw_qq m93 q90 (by decide) (by decide)
  have q110 : ∀ j b, j < 2 → (fun _ => none) j = some b → G92 b = 7 := fun _ _ _ h9 => by cases h9
  refine hw_putF (v := .ref q91) (fs' := [.ref q1, .ref q21, .ref q45, .ref q73, .int 0, .int 0, .ref q91, .null, .int 0, .null, .null, .int 0, .null, .null]) hx hb ff_34_10 hnm hK hH va (Nat.le_of_ble_eq_true rfl) rfl rfl rfl (fun _ => by rw [k101]; exact (show hw_ok D.2.1 G92 101 _ from ⟨_, rfl⟩)) hS (hw_AWi2 g100 k101 (by decide)) dX11_init_51 (fun H locs hH va oq hz hS => ?_)
  have v17 := va_at.kept v17 (oq _ (hw_ne k102 k101 (by decide)))
  have v39 := va_at.kept v39 (oq _ (hw_ne k103 k101 (by decide)))
  have v65 := va_at.kept v65 (oq _ (hw_ne k104 k101 (by decide)))
  have v80 := va_at.kept v80 (oq _ (hw_ne k105 k101 (by decide)))
  have v98 := va_at.kept v98 (oq _ (hw_ne k95 k101 (by decide)))
  refine lv_aload_n hx hb dX11_init_54 rfl (lv_at hl 0 rfl) ?_
  refine lv_iconst (v := 2) hx hb dX11_init_55 (by decide) ?_
  have hS0 := hS
  refine hw_newq hx hb 129 hown (hts (.classLink RX11 16 RX10) (by decide +kernel)) (hw_eo_Text hST.ex) (t := 6) rfl hK hH hS (n := 2) (N := 2) (show hw_ok D.2.1 G92 129 _ from ⟨_, rfl, fun _ _ _ h9 => by cases h9⟩) (by decide) (by decide) (by decide) (Nat.le_of_ble_eq_true rfl) (Nat.le_of_ble_eq_true rfl) dX11_init_56 (fun q111 G112 H hH m113 m114 k115 l116 e117 v118 oq hz hS => ?_)
  have w119 : s.heap.size ≤ q111 := by have := hS0.1; omega
  have g120 : ∀ x, x < s.heap.size → G112 x = G x := fun x h9 => (l116 x (Nat.lt_of_lt_of_le h9 hS0.1)).trans (g100 x h9)
  have va := va_at.kept va (oq _ (hw_lt va))
  have v17 := va_at.kept v17 (oq _ (hw_lt v17))
  have v39 := va_at.kept v39 (oq _ (hw_lt v39))
  have v65 := va_at.kept v65 (oq _ (hw_lt v65))
  have v80 := va_at.kept v80 (oq _ (hw_lt v80))
  have v98 := va_at.kept v98 (oq _ (hw_lt v98))
  have k121 := hw_kg2 m114 k101 (by decide)
  have k122 := hw_kg m113 k102 (by decide) (by decide)
  have k123 := hw_kg m113 k103 (by decide) (by decide)
  have k124 := hw_kg m113 k104 (by decide) (by decide)
  have k125 := hw_kg2 m114 k105 (by decide)
  have k126 := hw_kg2 m114 k95 (by decide)
  have R127 := hw_RC_mono m113 R106
  have R128 := hw_RT_mono m113 R107
  have R129 := hw_RS_mono m113 R108
  have q130 := hw_qq m113 q109 (by decide) (by decide)
  have q131 := hw_qq m113 q110 (by decide) (by decide)
  have q132 : ∀ j b, j < 2 → (fun _ => none) j = some b → G112 b = 8 := fun _ _ _ h9 => by cases h9
  refine hw_putF (v := .ref q111) (fs' := [.ref q1, .ref q21, .ref q45, .ref q73, .int 0, .int 0, .ref q91, .ref q111, .int 0, .null, .null, .int 0, .null, .null]) hx hb ff_37_10 hnm hK hH va (Nat.le_of_ble_eq_true rfl) rfl rfl rfl (fun _ => by rw [k121]; exact (show hw_ok D.2.1 G112 101 _ from ⟨_, rfl⟩)) hS (hw_AWi2 g120 k121 (by decide)) dX11_init_59 (fun H locs hH va oq hz hS => ?_)
  have v17 := va_at.kept v17 (oq _ (hw_ne k122 k121 (by decide)))
  have v39 := va_at.kept v39 (oq _ (hw_ne k123 k121 (by decide)))
  have v65 := va_at.kept v65 (oq _ (hw_ne k124 k121 (by decide)))
  have v80 := va_at.kept v80 (oq _ (hw_ne k125 k121 (by decide)))
  have v98 := va_at.kept v98 (oq _ (hw_ne k126 k121 (by decide)))
  have v118 := va_at.kept v118 (oq _ (hw_ne k115 k121 (by decide)))
  refine lv_aload_n hx hb dX11_init_62 rfl (lv_at hl 0 rfl) ?_
  refine lv_bipush (v := 6) hx hb dX11_init_63 (by decide) ?_
  have hS0 := hS
  refine hw_newa hx hb 30 (atype := .int) (hts (.arrayClass .int) (by decide +kernel)) (ty := .int) rfl (t := 0) rfl (fun _ h9 => h9) hK hH hS (n := 6) (N := 6) (6, .inl (fun _ => 0)) (fun _ => rfl) (show hw_ok D.2.1 G112 30 _ from ⟨_, rfl⟩) (by decide) (by decide) (by decide) (Nat.le_of_ble_eq_true rfl) (Nat.le_of_ble_eq_true rfl) dX11_init_65 (fun q133 G134 H hH m135 m136 k137 l138 e139 v140 oq hz hS => ?_)
  have w141 : s.heap.size ≤ q133 := by have := hS0.1; omega
  have g142 : ∀ x, x < s.heap.size → G134 x = G x := fun x h9 => (l138 x (Nat.lt_of_lt_of_le h9 hS0.1)).trans (g120 x h9)
  have va := va_at.kept va (oq _ (hw_lt va))
  have v17 := va_at.kept v17 (oq _ (hw_lt v17))
  have v39 := va_at.kept v39 (oq _ (hw_lt v39))
  have v65 := va_at.kept v65 (oq _ (hw_lt v65))
  have v80 := va_at.kept v80 (oq _ (hw_lt v80))
  have v98 := va_at.kept v98 (oq _ (hw_lt v98))
  have v118 := va_at.kept v118 (oq _ (hw_lt v118))
  have k143 := hw_kg2 m136 k121 (by decide)
  have k144 := hw_kg m135 k122 (by decide) (by decide)
  have k145 := hw_kg m135 k123 (by decide) (by decide)
  have k146 := hw_kg m135 k124 (by decide) (by decide)
  have k147 := hw_kg2 m136 k125 (by decide)
  have k148 := hw_kg2 m136 k126 (by decide)
  have k149 := hw_kg2 m136 k115 (by decide)
  have R150 := hw_RC_mono m135 R127
  have R151 := hw_RT_mono m135 R128
  have R152 := hw_RS_mono m135 R129
  have q153 := hw_qq m135 q130 (by decide) (by decide)
  have q154 := hw_qq m135 q131 (by decide) (by decide)
  have q155 := hw_qq m135 q132 (by decide) (by decide)
  refine hw_putF (v := .ref q133) (fs' := [.ref q1, .ref q21, .ref q45, .ref q73, .int 0, .int 0, .ref q91, .ref q111, .int 0, .ref q133, .null, .int 0, .null, .null]) hx hb ff_41_10 hnm hK hH va (Nat.le_of_ble_eq_true rfl) rfl rfl rfl (fun _ => by rw [k143]; exact (show hw_ok D.2.1 G134 101 _ from ⟨_, rfl⟩)) hS (hw_AWi2 g142 k143 (by decide)) dX11_init_67 (fun H locs hH va oq hz hS => ?_)
  have v17 := va_at.kept v17 (oq _ (hw_ne k144 k143 (by decide)))
  have v39 := va_at.kept v39 (oq _ (hw_ne k145 k143 (by decide)))
  have v65 := va_at.kept v65 (oq _ (hw_ne k146 k143 (by decide)))
  have v80 := va_at.kept v80 (oq _ (hw_ne k147 k143 (by decide)))
  have v98 := va_at.kept v98 (oq _ (hw_ne k148 k143 (by decide)))
  have v118 := va_at.kept v118 (oq _ (hw_ne k149 k143 (by decide)))
  refine lv_aload_n hx hb dX11_init_70 rfl (lv_at hl 0 rfl) ?_
  refine lv_bipush (v := 6) hx hb dX11_init_71 (by decide) ?_
  have hS0 := hS
  refine hw_newa hx hb 31 (atype := .int) (hts (.arrayClass .int) (by decide +kernel)) (ty := .int) rfl (t := 0) rfl (fun _ h9 => h9) hK hH hS (n := 6) (N := 6) (6, .inl (fun _ => 0)) (fun _ => rfl) (show hw_ok D.2.1 G134 31 _ from ⟨_, rfl⟩) (by decide) (by decide) (by decide) (Nat.le_of_ble_eq_true rfl) (Nat.le_of_ble_eq_true rfl) dX11_init_73 (fun q156 G157 H hH m158 m159 k160 l161 e162 v163 oq hz hS => ?_)
  have w164 : s.heap.size ≤ q156 := by have := hS0.1; omega
  have g165 : ∀ x, x < s.heap.size → G157 x = G x := fun x h9 => (l161 x (Nat.lt_of_lt_of_le h9 hS0.1)).trans (g142 x h9)
  have va := va_at.kept va (oq _ (hw_lt va))
  have v17 := va_at.kept v17 (oq _ (hw_lt v17))
  have v39 := va_at.kept v39 (oq _ (hw_lt v39))
  have v65 := va_at.kept v65 (oq _ (hw_lt v65))
  have v80 := va_at.kept v80 (oq _ (hw_lt v80))
  have v98 := va_at.kept v98 (oq _ (hw_lt v98))
  have v118 := va_at.kept v118 (oq _ (hw_lt v118))
  have k166 := hw_kg2 m159 k143 (by decide)
  have k167 := hw_kg m158 k144 (by decide) (by decide)
  have k168 := hw_kg m158 k145 (by decide) (by decide)
  have k169 := hw_kg m158 k146 (by decide) (by decide)
  have k170 := hw_kg2 m159 k147 (by decide)
  have k171 := hw_kg2 m159 k148 (by decide)
  have k172 := hw_kg2 m159 k149 (by decide)
  have k173 := hw_kg m158 k137 (by decide) (by decide)
  have R174 := hw_RC_mono m158 R150
  have R175 := hw_RT_mono m158 R151
  have R176 := hw_RS_mono m158 R152
  have q177 := hw_qq m158 q153 (by decide) (by decide)
  have q178 := hw_qq m158 q154 (by decide) (by decide)
  have q179 := hw_qq m158 q155 (by decide) (by decide)
  refine hw_putF (v := .ref q156) (fs' := [.ref q1, .ref q21, .ref q45, .ref q73, .int 0, .int 0, .ref q91, .ref q111, .int 0, .ref q133, .ref q156, .int 0, .null, .null]) hx hb ff_45_10 hnm hK hH va (Nat.le_of_ble_eq_true rfl) rfl rfl rfl (fun _ => by rw [k166]; exact (show hw_ok D.2.1 G157 101 _ from ⟨_, rfl⟩)) hS (hw_AWi2 g165 k166 (by decide)) dX11_init_75 (fun H locs hH va oq hz hS => ?_)
  have v17 := va_at.kept v17 (oq _ (hw_ne k167 k166 (by decide)))
  have v39 := va_at.kept v39 (oq _ (hw_ne k168 k166 (by decide)))
  have v65 := va_at.kept v65 (oq _ (hw_ne k169 k166 (by decide)))
  have v80 := va_at.kept v80 (oq _ (hw_ne k170 k166 (by decide)))
  have v98 := va_at.kept v98 (oq _ (hw_ne k171 k166 (by decide)))
  have v118 := va_at.kept v118 (oq _ (hw_ne k172 k166 (by decide)))
  refine lv_aload_n hx hb dX11_init_78 rfl (lv_at hl 0 rfl) ?_
  have hS0 := hS
  refine hw_new hx hb 105 (ci := 5) (C := RX6) (T := TX6) (N := 7) hts (by decide +kernel) tyX6 tyX6_ok hown (hts (.classLink RX11 48 RX6) (by decide +kernel)) (hts (.instantiable RX6 7) (by decide +kernel)) (hts (.initialized RX6) (by decide +kernel)) hK hH hS rfl [.null, .null, .null, .int 0, .null, .null, .null] (fun j hj => by rcases (show j = 0 ∨ j = 1 ∨ j = 2 ∨ j = 3 ∨ j = 4 ∨ j = 5 ∨ j = 6 by omega) with rfl | rfl | rfl | rfl | rfl | rfl | rfl <;> rfl) (show hw_ok D.2.1 G157 105 _ from ⟨_, rfl⟩) (Nat.le_of_ble_eq_true rfl) (Nat.le_of_ble_eq_true rfl) dX11_init_79 (fun q180 G181 H hH m182 m183 k184 l185 e186 v187 oq hz hS => ?_)
  have w188 : s.heap.size ≤ q180 := by have := hS0.1; omega
  have g189 : ∀ x, x < s.heap.size → G181 x = G x := fun x h9 => (l185 x (Nat.lt_of_lt_of_le h9 hS0.1)).trans (g165 x h9)
  have va := va_at.kept va (oq _ (hw_lt va))
  have v17 := va_at.kept v17 (oq _ (hw_lt v17))
  have v39 := va_at.kept v39 (oq _ (hw_lt v39))
  have v65 := va_at.kept v65 (oq _ (hw_lt v65))
  have v80 := va_at.kept v80 (oq _ (hw_lt v80))
  have v98 := va_at.kept v98 (oq _ (hw_lt v98))
  have v118 := va_at.kept v118 (oq _ (hw_lt v118))
  have k190 := hw_kg2 m183 k166 (by decide)
  have k191 := hw_kg m182 k167 (by decide) (by decide)
  have k192 := hw_kg m182 k168 (by decide) (by decide)
  have k193 := hw_kg m182 k169 (by decide) (by decide)
  have k194 := hw_kg2 m183 k170 (by decide)
  have k195 := hw_kg2 m183 k171 (by decide)
  have k196 := hw_kg2 m183 k172 (by decide)
  have k197 := hw_kg m182 k173 (by decide) (by decide)
  have k198 := hw_kg m182 k160 (by decide) (by decide)
  have R199 := hw_RC_mono m182 R174
  have R200 := hw_RT_mono m182 R175
  have R201 := hw_RS_mono m182 R176
  have q202 := hw_qq m182 q177 (by decide) (by decide)
  have q203 := hw_qq m182 q178 (by decide) (by decide)
  have q204 := hw_qq m182 q179 (by decide) (by decide)
  refine lv_dup hx hb dX11_init_82 rfl ?_
  have hHo := hH
  have hS0 := hS
  refine hw_cM (va_runIN (As := []) (rest := [.ref q180, .ref h0]) ⟨hx, hb, hml, hown, hts⟩ (k_X6_init l D G181 q180 _ k184) ⟨va_cnB 0 hts gX11_init_X6_init_n50 rfl rfl rfl (hw_en50 hST.ex) (hts (.initialized RX6) (by decide +kernel)) (by decide +kernel) ⟨Nat.le_of_ble_eq_true rfl, Nat.le_of_ble_eq_true rfl⟩, rfl, hts (.instanceMethod yX6_init) (by decide +kernel)⟩ (hw_pS hH hK hST hS (by decide) (hw_hG g189) v187) rfl rfl hl.1 rfl (lv_room (Nat.le_of_ble_eq_true rfl)) dX11_init_83 ⟨Nat.le_of_ble_eq_true rfl, Nat.le_of_ble_eq_true rfl⟩) hS (hw_AWsub (by decide) g189 hS.1) (fun v H locs hp hz hk hS => ?_)
  obtain ⟨G205, rfl, hH, i206, k207⟩ := hp
  have va := va_at.kept va (hk _ (hw_lt va) (hw_AWn k190 (by decide) (hw_lt va)))
  have v17 := va_at.kept v17 (hk _ (hw_lt v17) (hw_AWn k191 (by decide) (hw_lt v17)))
  have v39 := va_at.kept v39 (hk _ (hw_lt v39) (hw_AWn k192 (by decide) (hw_lt v39)))
  have v65 := va_at.kept v65 (hk _ (hw_lt v65) (hw_AWn k193 (by decide) (hw_lt v65)))
  have v80 := va_at.kept v80 (hk _ (hw_lt v80) (hw_AWn k194 (by decide) (hw_lt v80)))
  have v98 := va_at.kept v98 (hk _ (hw_lt v98) (hw_AWn k195 (by decide) (hw_lt v98)))
  have v118 := va_at.kept v118 (hk _ (hw_lt v118) (hw_AWn k196 (by decide) (hw_lt v118)))
  have m208 : ∀ a, G181 a ≠ 0 → G181 a < 100 → G205 a = G181 a := fun a h0 h1 => i206 a (hHo.lt h0) (fun e => by rw [e, k184] at h1; exact absurd h1 (by decide))
  have g209 : ∀ x, x < s.heap.size → G205 x = G x := fun x h9 => (i206 x (Nat.lt_of_lt_of_le h9 hS0.1) (fun e => by have := w188; omega)).trans (g189 x h9)
  have k210 := hw_kg3 i206 hHo k184 k190 (by decide) (by decide)
  have k211 := hw_kg m208 k191 (by decide) (by decide)
  have k212 := hw_kg m208 k192 (by decide) (by decide)
  have k213 := hw_kg m208 k193 (by decide) (by decide)
  have k214 := hw_kg3 i206 hHo k184 k194 (by decide) (by decide)
  have k215 := hw_kg3 i206 hHo k184 k195 (by decide) (by decide)
  have k216 := hw_kg3 i206 hHo k184 k196 (by decide) (by decide)
  have k217 := hw_kg m208 k197 (by decide) (by decide)
  have k218 := hw_kg m208 k198 (by decide) (by decide)
  have R219 := hw_RC_mono m208 R199
  have R220 := hw_RT_mono m208 R200
  have R221 := hw_RS_mono m208 R201
  have q222 := hw_qq m208 q202 (by decide) (by decide)
  have q223 := hw_qq m208 q203 (by decide) (by decide)
  have q224 := hw_qq m208 q204 (by decide) (by decide)
  refine hw_putF (v := .ref q180) (fs' := [.ref q1, .ref q21, .ref q45, .ref q73, .int 0, .int 0, .ref q91, .ref q111, .int 0, .ref q133, .ref q156, .int 0, .ref q180, .null]) hx hb ff_51_10 hnm hK hH va (Nat.le_of_ble_eq_true rfl) rfl rfl rfl (fun _ => by rw [k210]; exact (show hw_ok D.2.1 G205 101 _ from ⟨_, rfl⟩)) hS (hw_AWi2 g209 k210 (by decide)) dX11_init_86 (fun H locs hH va oq hz hS => ?_)
  have v17 := va_at.kept v17 (oq _ (hw_ne k211 k210 (by decide)))
  have v39 := va_at.kept v39 (oq _ (hw_ne k212 k210 (by decide)))
  have v65 := va_at.kept v65 (oq _ (hw_ne k213 k210 (by decide)))
  have v80 := va_at.kept v80 (oq _ (hw_ne k214 k210 (by decide)))
  have v98 := va_at.kept v98 (oq _ (hw_ne k215 k210 (by decide)))
  have v118 := va_at.kept v118 (oq _ (hw_ne k216 k210 (by decide)))
  refine lv_aload_n hx hb dX11_init_89 rfl (lv_at hl 0 rfl) ?_
  refine lv_iconst (v := 4) hx hb dX11_init_90 (by decide) ?_
  have hS0 := hS
  refine hw_newq hx hb 132 hown (hts (.classLink RX11 55 RX7) (by decide +kernel)) (hw_eo_Rack hST.ex) (t := 7) rfl hK hH hS (n := 4) (N := 4) (show hw_ok D.2.1 G205 132 _ from ⟨_, rfl, fun _ _ _ h9 => by cases h9⟩) (by decide) (by decide) (by decide) (Nat.le_of_ble_eq_true rfl) (Nat.le_of_ble_eq_true rfl) dX11_init_91 (fun q225 G226 H hH m227 m228 k229 l230 e231 v232 oq hz hS => ?_)
  have w233 : s.heap.size ≤ q225 := by have := hS0.1; omega
  have g234 : ∀ x, x < s.heap.size → G226 x = G x := fun x h9 => (l230 x (Nat.lt_of_lt_of_le h9 hS0.1)).trans (g209 x h9)
  have va := va_at.kept va (oq _ (hw_lt va))
  have v17 := va_at.kept v17 (oq _ (hw_lt v17))
  have v39 := va_at.kept v39 (oq _ (hw_lt v39))
  have v65 := va_at.kept v65 (oq _ (hw_lt v65))
  have v80 := va_at.kept v80 (oq _ (hw_lt v80))
  have v98 := va_at.kept v98 (oq _ (hw_lt v98))
  have v118 := va_at.kept v118 (oq _ (hw_lt v118))
  have k235 := hw_kg2 m228 k210 (by decide)
  have k236 := hw_kg m227 k211 (by decide) (by decide)
  have k237 := hw_kg m227 k212 (by decide) (by decide)
  have k238 := hw_kg m227 k213 (by decide) (by decide)
  have k239 := hw_kg2 m228 k214 (by decide)
  have k240 := hw_kg2 m228 k215 (by decide)
  have k241 := hw_kg2 m228 k216 (by decide)
  have k242 := hw_kg m227 k217 (by decide) (by decide)
  have k243 := hw_kg m227 k218 (by decide) (by decide)
  have k244 := hw_kg m227 k207 (by decide) (by decide)
  have R245 := hw_RC_mono m227 R219
  have R246 := hw_RT_mono m227 R220
  have R247 := hw_RS_mono m227 R221
  have q248 := hw_qq m227 q222 (by decide) (by decide)
  have q249 := hw_qq m227 q223 (by decide) (by decide)
  have q250 := hw_qq m227 q224 (by decide) (by decide)
  have q251 : ∀ j b, j < 4 → (fun _ => none) j = some b → G226 b = 6 := fun _ _ _ h9 => by cases h9
  refine hw_putF (v := .ref q225) (fs' := [.ref q1, .ref q21, .ref q45, .ref q73, .int 0, .int 0, .ref q91, .ref q111, .int 0, .ref q133, .ref q156, .int 0, .ref q180, .ref q225]) hx hb ff_57_10 hnm hK hH va (Nat.le_of_ble_eq_true rfl) rfl rfl rfl (fun _ => by rw [k235]; exact (show hw_ok D.2.1 G226 101 _ from ⟨_, rfl⟩)) hS (hw_AWi2 g234 k235 (by decide)) dX11_init_94 (fun H locs hH va oq hz hS => ?_)
  have v17 := va_at.kept v17 (oq _ (hw_ne k236 k235 (by decide)))
  have v39 := va_at.kept v39 (oq _ (hw_ne k237 k235 (by decide)))
  have v65 := va_at.kept v65 (oq _ (hw_ne k238 k235 (by decide)))
  have v80 := va_at.kept v80 (oq _ (hw_ne k239 k235 (by decide)))
  have v98 := va_at.kept v98 (oq _ (hw_ne k240 k235 (by decide)))
  have v118 := va_at.kept v118 (oq _ (hw_ne k241 k235 (by decide)))
  have v232 := va_at.kept v232 (oq _ (hw_ne k229 k235 (by decide)))
  refine lv_iconst (v := 0) hx hb dX11_init_97 (by decide) ?_
  refine lv_istore_n (lv' := [(1, .int 0), (0, .ref h0)]) hx hb dX11_init_98 rfl hl (by decide) rfl (fun ls hl => ?_)
  refine lv_iload_n hx hb dX11_init_99 rfl (lv_at hl 0 rfl) ?_
  refine lv_bipush (v := 8) hx hb dX11_init_100 (by decide) ?_
  refine lv_icmp_ge (tgt := 124) hx hb dX11_init_102 (by decide) (fun c252 => ?_) (fun c252 => ?_)
  · exact absurd c252 (by decide)
  · refine lv_aload_n hx hb dX11_init_105 rfl (lv_at hl 1 rfl) ?_
    refine hw_get hx hb fg_30_10 hK va rfl dX11_init_106 ?_
    refine lv_iload_n hx hb dX11_init_109 rfl (lv_at hl 0 rfl) ?_
    have hS0 := hS
    refine hw_new hx hb 107 (ci := 8) (C := RX9) (T := TX9) (N := 7) hts (by decide +kernel) tyX9 tyX9_ok hown (hts (.classLink RX11 23 RX9) (by decide +kernel)) (hts (.instantiable RX9 7) (by decide +kernel)) (hts (.initialized RX9) (by decide +kernel)) hK hH hS rfl [.int 0, .int 0, .int 0, .null, .null, .null, .null] (fun j hj => by rcases (show j = 0 ∨ j = 1 ∨ j = 2 ∨ j = 3 ∨ j = 4 ∨ j = 5 ∨ j = 6 by omega) with rfl | rfl | rfl | rfl | rfl | rfl | rfl <;> rfl) (show hw_ok D.2.1 G226 107 _ from ⟨_, rfl⟩) (Nat.le_of_ble_eq_true rfl) (Nat.le_of_ble_eq_true rfl) dX11_init_110 (fun q253 G254 H hH m255 m256 k257 l258 e259 v260 oq hz hS => ?_)
    have w261 : s.heap.size ≤ q253 := by have := hS0.1; omega
    have g262 : ∀ x, x < s.heap.size → G254 x = G x := fun x h9 => (l258 x (Nat.lt_of_lt_of_le h9 hS0.1)).trans (g234 x h9)
    have va := va_at.kept va (oq _ (hw_lt va))
    have v17 := va_at.kept v17 (oq _ (hw_lt v17))
    have v39 := va_at.kept v39 (oq _ (hw_lt v39))
    have v65 := va_at.kept v65 (oq _ (hw_lt v65))
    have v80 := va_at.kept v80 (oq _ (hw_lt v80))
    have v98 := va_at.kept v98 (oq _ (hw_lt v98))
    have v118 := va_at.kept v118 (oq _ (hw_lt v118))
    have v232 := va_at.kept v232 (oq _ (hw_lt v232))
    have k263 := hw_kg2 m256 k239 (by decide)
    have k264 := hw_kg2 m256 k235 (by decide)
    have k265 := hw_kg m255 k236 (by decide) (by decide)
    have k266 := hw_kg m255 k237 (by decide) (by decide)
    have k267 := hw_kg m255 k238 (by decide) (by decide)
    have k268 := hw_kg2 m256 k240 (by decide)
    have k269 := hw_kg2 m256 k241 (by decide)
    have k270 := hw_kg m255 k242 (by decide) (by decide)
    have k271 := hw_kg m255 k243 (by decide) (by decide)
    have k272 := hw_kg m255 k244 (by decide) (by decide)
    have k273 := hw_kg2 m256 k229 (by decide)
    have R274 := hw_RC_mono m255 R245
    have R275 := hw_RT_mono m255 R246
    have R276 := hw_RS_mono m255 R247
    have q277 := hw_qq m255 q248 (by decide) (by decide)
    have q278 := hw_qq m255 q249 (by decide) (by decide)
    have q279 := hw_qq m255 q250 (by decide) (by decide)
    have q280 := hw_qq m255 q251 (by decide) (by decide)
    refine lv_dup hx hb dX11_init_113 rfl ?_
    have hHo := hH
    have hS0 := hS
    refine hw_cM (va_runIN (As := []) (rest := [.ref q253, .int 0, .ref q73]) ⟨hx, hb, hml, hown, hts⟩ (k_X9_init l D G254 q253 _ k257) ⟨va_cnB 0 hts gX11_init_X9_init_n25 rfl rfl rfl (hw_en25 hST.ex) (hts (.initialized RX9) (by decide +kernel)) (by decide +kernel) ⟨Nat.le_of_ble_eq_true rfl, Nat.le_of_ble_eq_true rfl⟩, rfl, hts (.instanceMethod yX9_init) (by decide +kernel)⟩ (hw_pS hH hK hST hS (by decide) (hw_hG g262) v260) rfl rfl hl.1 rfl (lv_room (Nat.le_of_ble_eq_true rfl)) dX11_init_114 ⟨Nat.le_of_ble_eq_true rfl, Nat.le_of_ble_eq_true rfl⟩) hS (hw_AWsub (by decide) g262 hS.1) (fun v H locs hp hz hk hS => ?_)
    obtain ⟨G281, r284, rfl, hH, i282, k283, R285, v286⟩ := hp
    have va := va_at.kept va (hk _ (hw_lt va) (hw_AWn k264 (by decide) (hw_lt va)))
    have v17 := va_at.kept v17 (hk _ (hw_lt v17) (hw_AWn k265 (by decide) (hw_lt v17)))
    have v39 := va_at.kept v39 (hk _ (hw_lt v39) (hw_AWn k266 (by decide) (hw_lt v39)))
    have v65 := va_at.kept v65 (hk _ (hw_lt v65) (hw_AWn k267 (by decide) (hw_lt v65)))
    have v80 := va_at.kept v80 (hk _ (hw_lt v80) (hw_AWn k263 (by decide) (hw_lt v80)))
    have v98 := va_at.kept v98 (hk _ (hw_lt v98) (hw_AWn k268 (by decide) (hw_lt v98)))
    have v118 := va_at.kept v118 (hk _ (hw_lt v118) (hw_AWn k269 (by decide) (hw_lt v118)))
    have v232 := va_at.kept v232 (hk _ (hw_lt v232) (hw_AWn k273 (by decide) (hw_lt v232)))
    have m287 : ∀ a, G254 a ≠ 0 → G254 a < 100 → G281 a = G254 a := fun a h0 h1 => i282 a (hHo.lt h0) (fun e => by rw [e, k257] at h1; exact absurd h1 (by decide))
    have g288 : ∀ x, x < s.heap.size → G281 x = G x := fun x h9 => (i282 x (Nat.lt_of_lt_of_le h9 hS0.1) (fun e => by have := w261; omega)).trans (g262 x h9)
    have k289 := hw_kg3 i282 hHo k257 k263 (by decide) (by decide)
    have k290 := hw_kg3 i282 hHo k257 k264 (by decide) (by decide)
    have k291 := hw_kg m287 k265 (by decide) (by decide)
    have k292 := hw_kg m287 k266 (by decide) (by decide)
    have k293 := hw_kg m287 k267 (by decide) (by decide)
    have k294 := hw_kg3 i282 hHo k257 k268 (by decide) (by decide)
    have k295 := hw_kg3 i282 hHo k257 k269 (by decide) (by decide)
    have k296 := hw_kg m287 k270 (by decide) (by decide)
    have k297 := hw_kg m287 k271 (by decide) (by decide)
    have k298 := hw_kg m287 k272 (by decide) (by decide)
    have k299 := hw_kg3 i282 hHo k257 k273 (by decide) (by decide)
    have R300 := hw_RC_mono m287 R274
    have R301 := hw_RT_mono m287 R275
    have R302 := hw_RS_mono m287 R276
    have q303 := hw_qq m287 q277 (by decide) (by decide)
    have q304 := hw_qq m287 q278 (by decide) (by decide)
    have q305 := hw_qq m287 q279 (by decide) (by decide)
    have q306 := hw_qq m287 q280 (by decide) (by decide)
    refine hw_aast (t := 5) (ci := 8) (q := (RX9, TX9, 7)) hx hb hK hH v80 rfl v286 rfl (fun comp c0 h1 h2 => by cases h1.symm.trans h2; exact va_asg _ _) (hw_in (x := 0) (by decide) (by decide)) (fun _ => by rw [k289]; exact ⟨_, rfl, hw_upq q303 k283⟩) hS (Or.inr w81) dX11_init_117 (fun H locs hH v80 oq hz hS => ?_)
    have va := va_at.kept va (oq _ (hw_ne k290 k289 (by decide)))
    have v17 := va_at.kept v17 (oq _ (hw_ne k291 k289 (by decide)))
    have v39 := va_at.kept v39 (oq _ (hw_ne k292 k289 (by decide)))
    have v65 := va_at.kept v65 (oq _ (hw_ne k293 k289 (by decide)))
    have v98 := va_at.kept v98 (oq _ (hw_ne k294 k289 (by decide)))
    have v118 := va_at.kept v118 (oq _ (hw_ne k295 k289 (by decide)))
    have v232 := va_at.kept v232 (oq _ (hw_ne k299 k289 (by decide)))
    have v286 := va_at.kept v286 (oq _ (hw_ne k283 k289 (by decide)))
    have q309 : ∀ j b, j < 8 → (va_up (fun _ => none) (0 : Int32).toNatClampNeg (some q253)) j = some b → G281 b = 7 := hw_upq q303 k283
    refine lv_iinc (v := 1) (lv' := [(1, .int 1), (0, .ref h0)]) hx hb dX11_init_118 hl (k := 0) rfl (by rfl) (by decide) rfl (fun ls hl => ?_)
    refine lv_goto (tgt := 99) hx hb dX11_init_121 (by decide) ?_
    refine lv_iload_n hx hb dX11_init_99 rfl (lv_at hl 0 rfl) ?_
    refine lv_bipush (v := 8) hx hb dX11_init_100 (by decide) ?_
    refine lv_icmp_ge (tgt := 124) hx hb dX11_init_102 (by decide) (fun c310 => ?_) (fun c310 => ?_)
    · exact absurd c310 (by decide)
    · refine lv_aload_n hx hb dX11_init_105 rfl (lv_at hl 1 rfl) ?_
      refine hw_get hx hb fg_30_10 hK va rfl dX11_init_106 ?_
      refine lv_iload_n hx hb dX11_init_109 rfl (lv_at hl 0 rfl) ?_
      have hS0 := hS
      refine hw_new hx hb 107 (ci := 8) (C := RX9) (T := TX9) (N := 7) hts (by decide +kernel) tyX9 tyX9_ok hown (hts (.classLink RX11 23 RX9) (by decide +kernel)) (hts (.instantiable RX9 7) (by decide +kernel)) (hts (.initialized RX9) (by decide +kernel)) hK hH hS rfl [.int 0, .int 0, .int 0, .null, .null, .null, .null] (fun j hj => by rcases (show j = 0 ∨ j = 1 ∨ j = 2 ∨ j = 3 ∨ j = 4 ∨ j = 5 ∨ j = 6 by omega) with rfl | rfl | rfl | rfl | rfl | rfl | rfl <;> rfl) (show hw_ok D.2.1 G281 107 _ from ⟨_, rfl⟩) (Nat.le_of_ble_eq_true rfl) (Nat.le_of_ble_eq_true rfl) dX11_init_110 (fun q311 G312 H hH m313 m314 k315 l316 e317 v318 oq hz hS => ?_)
      have w319 : s.heap.size ≤ q311 := by have := hS0.1; omega
      have g320 : ∀ x, x < s.heap.size → G312 x = G x := fun x h9 => (l316 x (Nat.lt_of_lt_of_le h9 hS0.1)).trans (g288 x h9)
      have va := va_at.kept va (oq _ (hw_lt va))
      have v17 := va_at.kept v17 (oq _ (hw_lt v17))
      have v39 := va_at.kept v39 (oq _ (hw_lt v39))
      have v65 := va_at.kept v65 (oq _ (hw_lt v65))
      have v80 := va_at.kept v80 (oq _ (hw_lt v80))
      have v98 := va_at.kept v98 (oq _ (hw_lt v98))
      have v118 := va_at.kept v118 (oq _ (hw_lt v118))
      have v232 := va_at.kept v232 (oq _ (hw_lt v232))
      have k321 := hw_kg2 m314 k289 (by decide)
      have k322 := hw_kg2 m314 k290 (by decide)
      have k323 := hw_kg m313 k291 (by decide) (by decide)
      have k324 := hw_kg m313 k292 (by decide) (by decide)
      have k325 := hw_kg m313 k293 (by decide) (by decide)
      have k326 := hw_kg2 m314 k294 (by decide)
      have k327 := hw_kg2 m314 k295 (by decide)
      have k328 := hw_kg m313 k296 (by decide) (by decide)
      have k329 := hw_kg m313 k297 (by decide) (by decide)
      have k330 := hw_kg m313 k298 (by decide) (by decide)
      have k331 := hw_kg2 m314 k299 (by decide)
      have R332 := hw_RC_mono m313 R300
      have R333 := hw_RT_mono m313 R301
      have R334 := hw_RS_mono m313 R302
      have q335 := hw_qq m313 q309 (by decide) (by decide)
      have q336 := hw_qq m313 q304 (by decide) (by decide)
      have q337 := hw_qq m313 q305 (by decide) (by decide)
      have q338 := hw_qq m313 q306 (by decide) (by decide)
      refine lv_dup hx hb dX11_init_113 rfl ?_
      have hHo := hH
      have hS0 := hS
      refine hw_cM (va_runIN (As := []) (rest := [.ref q311, .int 1, .ref q73]) ⟨hx, hb, hml, hown, hts⟩ (k_X9_init l D G312 q311 _ k315) ⟨va_cnB 0 hts gX11_init_X9_init_n25 rfl rfl rfl (hw_en25 hST.ex) (hts (.initialized RX9) (by decide +kernel)) (by decide +kernel) ⟨Nat.le_of_ble_eq_true rfl, Nat.le_of_ble_eq_true rfl⟩, rfl, hts (.instanceMethod yX9_init) (by decide +kernel)⟩ (hw_pS hH hK hST hS (by decide) (hw_hG g320) v318) rfl rfl hl.1 rfl (lv_room (Nat.le_of_ble_eq_true rfl)) dX11_init_114 ⟨Nat.le_of_ble_eq_true rfl, Nat.le_of_ble_eq_true rfl⟩) hS (hw_AWsub (by decide) g320 hS.1) (fun v H locs hp hz hk hS => ?_)
      obtain ⟨G339, r342, rfl, hH, i340, k341, R343, v344⟩ := hp
      have va := va_at.kept va (hk _ (hw_lt va) (hw_AWn k322 (by decide) (hw_lt va)))
      have v17 := va_at.kept v17 (hk _ (hw_lt v17) (hw_AWn k323 (by decide) (hw_lt v17)))
      have v39 := va_at.kept v39 (hk _ (hw_lt v39) (hw_AWn k324 (by decide) (hw_lt v39)))
      have v65 := va_at.kept v65 (hk _ (hw_lt v65) (hw_AWn k325 (by decide) (hw_lt v65)))
      have v80 := va_at.kept v80 (hk _ (hw_lt v80) (hw_AWn k321 (by decide) (hw_lt v80)))
      have v98 := va_at.kept v98 (hk _ (hw_lt v98) (hw_AWn k326 (by decide) (hw_lt v98)))
      have v118 := va_at.kept v118 (hk _ (hw_lt v118) (hw_AWn k327 (by decide) (hw_lt v118)))
      have v232 := va_at.kept v232 (hk _ (hw_lt v232) (hw_AWn k331 (by decide) (hw_lt v232)))
      have m345 : ∀ a, G312 a ≠ 0 → G312 a < 100 → G339 a = G312 a := fun a h0 h1 => i340 a (hHo.lt h0) (fun e => by rw [e, k315] at h1; exact absurd h1 (by decide))
      have g346 : ∀ x, x < s.heap.size → G339 x = G x := fun x h9 => (i340 x (Nat.lt_of_lt_of_le h9 hS0.1) (fun e => by have := w319; omega)).trans (g320 x h9)
      have k347 := hw_kg3 i340 hHo k315 k321 (by decide) (by decide)
      have k348 := hw_kg3 i340 hHo k315 k322 (by decide) (by decide)
      have k349 := hw_kg m345 k323 (by decide) (by decide)
      have k350 := hw_kg m345 k324 (by decide) (by decide)
      have k351 := hw_kg m345 k325 (by decide) (by decide)
      have k352 := hw_kg3 i340 hHo k315 k326 (by decide) (by decide)
      have k353 := hw_kg3 i340 hHo k315 k327 (by decide) (by decide)
      have k354 := hw_kg m345 k328 (by decide) (by decide)
      have k355 := hw_kg m345 k329 (by decide) (by decide)
      have k356 := hw_kg m345 k330 (by decide) (by decide)
      have k357 := hw_kg3 i340 hHo k315 k331 (by decide) (by decide)
      have R358 := hw_RC_mono m345 R332
      have R359 := hw_RT_mono m345 R333
      have R360 := hw_RS_mono m345 R334
      have q361 := hw_qq m345 q335 (by decide) (by decide)
      have q362 := hw_qq m345 q336 (by decide) (by decide)
      have q363 := hw_qq m345 q337 (by decide) (by decide)
      have q364 := hw_qq m345 q338 (by decide) (by decide)
      refine hw_aast (t := 5) (ci := 8) (q := (RX9, TX9, 7)) hx hb hK hH v80 rfl v344 rfl (fun comp c0 h1 h2 => by cases h1.symm.trans h2; exact va_asg _ _) (hw_in (x := 1) (by decide) (by decide)) (fun _ => by rw [k347]; exact ⟨_, rfl, hw_upq q361 k341⟩) hS (Or.inr w81) dX11_init_117 (fun H locs hH v80 oq hz hS => ?_)
      have va := va_at.kept va (oq _ (hw_ne k348 k347 (by decide)))
      have v17 := va_at.kept v17 (oq _ (hw_ne k349 k347 (by decide)))
      have v39 := va_at.kept v39 (oq _ (hw_ne k350 k347 (by decide)))
      have v65 := va_at.kept v65 (oq _ (hw_ne k351 k347 (by decide)))
      have v98 := va_at.kept v98 (oq _ (hw_ne k352 k347 (by decide)))
      have v118 := va_at.kept v118 (oq _ (hw_ne k353 k347 (by decide)))
      have v232 := va_at.kept v232 (oq _ (hw_ne k357 k347 (by decide)))
      have v344 := va_at.kept v344 (oq _ (hw_ne k341 k347 (by decide)))
      have q367 : ∀ j b, j < 8 → (va_up (va_up (fun _ => none) (0 : Int32).toNatClampNeg (some q253)) (1 : Int32).toNatClampNeg (some q311)) j = some b → G339 b = 7 := hw_upq q361 k341
      refine lv_iinc (v := 2) (lv' := [(1, .int 2), (0, .ref h0)]) hx hb dX11_init_118 hl (k := 0) rfl (by rfl) (by decide) rfl (fun ls hl => ?_)
      refine lv_goto (tgt := 99) hx hb dX11_init_121 (by decide) ?_
      refine lv_iload_n hx hb dX11_init_99 rfl (lv_at hl 0 rfl) ?_
      refine lv_bipush (v := 8) hx hb dX11_init_100 (by decide) ?_
      refine lv_icmp_ge (tgt := 124) hx hb dX11_init_102 (by decide) (fun c368 => ?_) (fun c368 => ?_)
      · exact absurd c368 (by decide)
      · refine lv_aload_n hx hb dX11_init_105 rfl (lv_at hl 1 rfl) ?_
        refine hw_get hx hb fg_30_10 hK va rfl dX11_init_106 ?_
        refine lv_iload_n hx hb dX11_init_109 rfl (lv_at hl 0 rfl) ?_
        have hS0 := hS
        refine hw_new hx hb 107 (ci := 8) (C := RX9) (T := TX9) (N := 7) hts (by decide +kernel) tyX9 tyX9_ok hown (hts (.classLink RX11 23 RX9) (by decide +kernel)) (hts (.instantiable RX9 7) (by decide +kernel)) (hts (.initialized RX9) (by decide +kernel)) hK hH hS rfl [.int 0, .int 0, .int 0, .null, .null, .null, .null] (fun j hj => by rcases (show j = 0 ∨ j = 1 ∨ j = 2 ∨ j = 3 ∨ j = 4 ∨ j = 5 ∨ j = 6 by omega) with rfl | rfl | rfl | rfl | rfl | rfl | rfl <;> rfl) (show hw_ok D.2.1 G339 107 _ from ⟨_, rfl⟩) (Nat.le_of_ble_eq_true rfl) (Nat.le_of_ble_eq_true rfl) dX11_init_110 (fun q369 G370 H hH m371 m372 k373 l374 e375 v376 oq hz hS => ?_)
        have w377 : s.heap.size ≤ q369 := by have := hS0.1; omega
        have g378 : ∀ x, x < s.heap.size → G370 x = G x := fun x h9 => (l374 x (Nat.lt_of_lt_of_le h9 hS0.1)).trans (g346 x h9)
        have va := va_at.kept va (oq _ (hw_lt va))
        have v17 := va_at.kept v17 (oq _ (hw_lt v17))
        have v39 := va_at.kept v39 (oq _ (hw_lt v39))
        have v65 := va_at.kept v65 (oq _ (hw_lt v65))
        have v80 := va_at.kept v80 (oq _ (hw_lt v80))
        have v98 := va_at.kept v98 (oq _ (hw_lt v98))
        have v118 := va_at.kept v118 (oq _ (hw_lt v118))
        have v232 := va_at.kept v232 (oq _ (hw_lt v232))
        have k379 := hw_kg2 m372 k347 (by decide)
        have k380 := hw_kg2 m372 k348 (by decide)
        have k381 := hw_kg m371 k349 (by decide) (by decide)
        have k382 := hw_kg m371 k350 (by decide) (by decide)
        have k383 := hw_kg m371 k351 (by decide) (by decide)
        have k384 := hw_kg2 m372 k352 (by decide)
        have k385 := hw_kg2 m372 k353 (by decide)
        have k386 := hw_kg m371 k354 (by decide) (by decide)
        have k387 := hw_kg m371 k355 (by decide) (by decide)
        have k388 := hw_kg m371 k356 (by decide) (by decide)
        have k389 := hw_kg2 m372 k357 (by decide)
        have R390 := hw_RC_mono m371 R358
        have R391 := hw_RT_mono m371 R359
        have R392 := hw_RS_mono m371 R360
        have q393 := hw_qq m371 q367 (by decide) (by decide)
        have q394 := hw_qq m371 q362 (by decide) (by decide)
        have q395 := hw_qq m371 q363 (by decide) (by decide)
        have q396 := hw_qq m371 q364 (by decide) (by decide)
        refine lv_dup hx hb dX11_init_113 rfl ?_
        have hHo := hH
        have hS0 := hS
        refine hw_cM (va_runIN (As := []) (rest := [.ref q369, .int 2, .ref q73]) ⟨hx, hb, hml, hown, hts⟩ (k_X9_init l D G370 q369 _ k373) ⟨va_cnB 0 hts gX11_init_X9_init_n25 rfl rfl rfl (hw_en25 hST.ex) (hts (.initialized RX9) (by decide +kernel)) (by decide +kernel) ⟨Nat.le_of_ble_eq_true rfl, Nat.le_of_ble_eq_true rfl⟩, rfl, hts (.instanceMethod yX9_init) (by decide +kernel)⟩ (hw_pS hH hK hST hS (by decide) (hw_hG g378) v376) rfl rfl hl.1 rfl (lv_room (Nat.le_of_ble_eq_true rfl)) dX11_init_114 ⟨Nat.le_of_ble_eq_true rfl, Nat.le_of_ble_eq_true rfl⟩) hS (hw_AWsub (by decide) g378 hS.1) (fun v H locs hp hz hk hS => ?_)
        obtain ⟨G397, r400, rfl, hH, i398, k399, R401, v402⟩ := hp
        have va := va_at.kept va (hk _ (hw_lt va) (hw_AWn k380 (by decide) (hw_lt va)))
        have v17 := va_at.kept v17 (hk _ (hw_lt v17) (hw_AWn k381 (by decide) (hw_lt v17)))
        have v39 := va_at.kept v39 (hk _ (hw_lt v39) (hw_AWn k382 (by decide) (hw_lt v39)))
        have v65 := va_at.kept v65 (hk _ (hw_lt v65) (hw_AWn k383 (by decide) (hw_lt v65)))
        have v80 := va_at.kept v80 (hk _ (hw_lt v80) (hw_AWn k379 (by decide) (hw_lt v80)))
        have v98 := va_at.kept v98 (hk _ (hw_lt v98) (hw_AWn k384 (by decide) (hw_lt v98)))
        have v118 := va_at.kept v118 (hk _ (hw_lt v118) (hw_AWn k385 (by decide) (hw_lt v118)))
        have v232 := va_at.kept v232 (hk _ (hw_lt v232) (hw_AWn k389 (by decide) (hw_lt v232)))
        have m403 : ∀ a, G370 a ≠ 0 → G370 a < 100 → G397 a = G370 a := fun a h0 h1 => i398 a (hHo.lt h0) (fun e => by rw [e, k373] at h1; exact absurd h1 (by decide))
        have g404 : ∀ x, x < s.heap.size → G397 x = G x := fun x h9 => (i398 x (Nat.lt_of_lt_of_le h9 hS0.1) (fun e => by have := w377; omega)).trans (g378 x h9)
        have k405 := hw_kg3 i398 hHo k373 k379 (by decide) (by decide)
        have k406 := hw_kg3 i398 hHo k373 k380 (by decide) (by decide)
        have k407 := hw_kg m403 k381 (by decide) (by decide)
        have k408 := hw_kg m403 k382 (by decide) (by decide)
        have k409 := hw_kg m403 k383 (by decide) (by decide)
        have k410 := hw_kg3 i398 hHo k373 k384 (by decide) (by decide)
        have k411 := hw_kg3 i398 hHo k373 k385 (by decide) (by decide)
        have k412 := hw_kg m403 k386 (by decide) (by decide)
        have k413 := hw_kg m403 k387 (by decide) (by decide)
        have k414 := hw_kg m403 k388 (by decide) (by decide)
        have k415 := hw_kg3 i398 hHo k373 k389 (by decide) (by decide)
        have R416 := hw_RC_mono m403 R390
        have R417 := hw_RT_mono m403 R391
        have R418 := hw_RS_mono m403 R392
        have q419 := hw_qq m403 q393 (by decide) (by decide)
        have q420 := hw_qq m403 q394 (by decide) (by decide)
        have q421 := hw_qq m403 q395 (by decide) (by decide)
        have q422 := hw_qq m403 q396 (by decide) (by decide)
        refine hw_aast (t := 5) (ci := 8) (q := (RX9, TX9, 7)) hx hb hK hH v80 rfl v402 rfl (fun comp c0 h1 h2 => by cases h1.symm.trans h2; exact va_asg _ _) (hw_in (x := 2) (by decide) (by decide)) (fun _ => by rw [k405]; exact ⟨_, rfl, hw_upq q419 k399⟩) hS (Or.inr w81) dX11_init_117 (fun H locs hH v80 oq hz hS => ?_)
        have va := va_at.kept va (oq _ (hw_ne k406 k405 (by decide)))
        have v17 := va_at.kept v17 (oq _ (hw_ne k407 k405 (by decide)))
        have v39 := va_at.kept v39 (oq _ (hw_ne k408 k405 (by decide)))
        have v65 := va_at.kept v65 (oq _ (hw_ne k409 k405 (by decide)))
        have v98 := va_at.kept v98 (oq _ (hw_ne k410 k405 (by decide)))
        have v118 := va_at.kept v118 (oq _ (hw_ne k411 k405 (by decide)))
        have v232 := va_at.kept v232 (oq _ (hw_ne k415 k405 (by decide)))
        have v402 := va_at.kept v402 (oq _ (hw_ne k399 k405 (by decide)))
        have q425 : ∀ j b, j < 8 → (va_up (va_up (va_up (fun _ => none) (0 : Int32).toNatClampNeg (some q253)) (1 : Int32).toNatClampNeg (some q311)) (2 : Int32).toNatClampNeg (some q369)) j = some b → G397 b = 7 := hw_upq q419 k399
        refine lv_iinc (v := 3) (lv' := [(1, .int 3), (0, .ref h0)]) hx hb dX11_init_118 hl (k := 0) rfl (by rfl) (by decide) rfl (fun ls hl => ?_)
        refine lv_goto (tgt := 99) hx hb dX11_init_121 (by decide) ?_
        refine lv_iload_n hx hb dX11_init_99 rfl (lv_at hl 0 rfl) ?_
        refine lv_bipush (v := 8) hx hb dX11_init_100 (by decide) ?_
        refine lv_icmp_ge (tgt := 124) hx hb dX11_init_102 (by decide) (fun c426 => ?_) (fun c426 => ?_)
        · exact absurd c426 (by decide)
        · refine lv_aload_n hx hb dX11_init_105 rfl (lv_at hl 1 rfl) ?_
          refine hw_get hx hb fg_30_10 hK va rfl dX11_init_106 ?_
          refine lv_iload_n hx hb dX11_init_109 rfl (lv_at hl 0 rfl) ?_
          have hS0 := hS
          refine hw_new hx hb 107 (ci := 8) (C := RX9) (T := TX9) (N := 7) hts (by decide +kernel) tyX9 tyX9_ok hown (hts (.classLink RX11 23 RX9) (by decide +kernel)) (hts (.instantiable RX9 7) (by decide +kernel)) (hts (.initialized RX9) (by decide +kernel)) hK hH hS rfl [.int 0, .int 0, .int 0, .null, .null, .null, .null] (fun j hj => by rcases (show j = 0 ∨ j = 1 ∨ j = 2 ∨ j = 3 ∨ j = 4 ∨ j = 5 ∨ j = 6 by omega) with rfl | rfl | rfl | rfl | rfl | rfl | rfl <;> rfl) (show hw_ok D.2.1 G397 107 _ from ⟨_, rfl⟩) (Nat.le_of_ble_eq_true rfl) (Nat.le_of_ble_eq_true rfl) dX11_init_110 (fun q427 G428 H hH m429 m430 k431 l432 e433 v434 oq hz hS => ?_)
          have w435 : s.heap.size ≤ q427 := by have := hS0.1; omega
          have g436 : ∀ x, x < s.heap.size → G428 x = G x := fun x h9 => (l432 x (Nat.lt_of_lt_of_le h9 hS0.1)).trans (g404 x h9)
          have va := va_at.kept va (oq _ (hw_lt va))
          have v17 := va_at.kept v17 (oq _ (hw_lt v17))
          have v39 := va_at.kept v39 (oq _ (hw_lt v39))
          have v65 := va_at.kept v65 (oq _ (hw_lt v65))
          have v80 := va_at.kept v80 (oq _ (hw_lt v80))
          have v98 := va_at.kept v98 (oq _ (hw_lt v98))
          have v118 := va_at.kept v118 (oq _ (hw_lt v118))
          have v232 := va_at.kept v232 (oq _ (hw_lt v232))
          have k437 := hw_kg2 m430 k405 (by decide)
          have k438 := hw_kg2 m430 k406 (by decide)
          have k439 := hw_kg m429 k407 (by decide) (by decide)
          have k440 := hw_kg m429 k408 (by decide) (by decide)
          have k441 := hw_kg m429 k409 (by decide) (by decide)
          have k442 := hw_kg2 m430 k410 (by decide)
          have k443 := hw_kg2 m430 k411 (by decide)
          have k444 := hw_kg m429 k412 (by decide) (by decide)
          have k445 := hw_kg m429 k413 (by decide) (by decide)
          have k446 := hw_kg m429 k414 (by decide) (by decide)
          have k447 := hw_kg2 m430 k415 (by decide)
          have R448 := hw_RC_mono m429 R416
          have R449 := hw_RT_mono m429 R417
          have R450 := hw_RS_mono m429 R418
          have q451 := hw_qq m429 q425 (by decide) (by decide)
          have q452 := hw_qq m429 q420 (by decide) (by decide)
          have q453 := hw_qq m429 q421 (by decide) (by decide)
          have q454 := hw_qq m429 q422 (by decide) (by decide)
          refine lv_dup hx hb dX11_init_113 rfl ?_
          have hHo := hH
          have hS0 := hS
          refine hw_cM (va_runIN (As := []) (rest := [.ref q427, .int 3, .ref q73]) ⟨hx, hb, hml, hown, hts⟩ (k_X9_init l D G428 q427 _ k431) ⟨va_cnB 0 hts gX11_init_X9_init_n25 rfl rfl rfl (hw_en25 hST.ex) (hts (.initialized RX9) (by decide +kernel)) (by decide +kernel) ⟨Nat.le_of_ble_eq_true rfl, Nat.le_of_ble_eq_true rfl⟩, rfl, hts (.instanceMethod yX9_init) (by decide +kernel)⟩ (hw_pS hH hK hST hS (by decide) (hw_hG g436) v434) rfl rfl hl.1 rfl (lv_room (Nat.le_of_ble_eq_true rfl)) dX11_init_114 ⟨Nat.le_of_ble_eq_true rfl, Nat.le_of_ble_eq_true rfl⟩) hS (hw_AWsub (by decide) g436 hS.1) (fun v H locs hp hz hk hS => ?_)
          obtain ⟨G455, r458, rfl, hH, i456, k457, R459, v460⟩ := hp
          have va := va_at.kept va (hk _ (hw_lt va) (hw_AWn k438 (by decide) (hw_lt va)))
          have v17 := va_at.kept v17 (hk _ (hw_lt v17) (hw_AWn k439 (by decide) (hw_lt v17)))
          have v39 := va_at.kept v39 (hk _ (hw_lt v39) (hw_AWn k440 (by decide) (hw_lt v39)))
          have v65 := va_at.kept v65 (hk _ (hw_lt v65) (hw_AWn k441 (by decide) (hw_lt v65)))
          have v80 := va_at.kept v80 (hk _ (hw_lt v80) (hw_AWn k437 (by decide) (hw_lt v80)))
          have v98 := va_at.kept v98 (hk _ (hw_lt v98) (hw_AWn k442 (by decide) (hw_lt v98)))
          have v118 := va_at.kept v118 (hk _ (hw_lt v118) (hw_AWn k443 (by decide) (hw_lt v118)))
          have v232 := va_at.kept v232 (hk _ (hw_lt v232) (hw_AWn k447 (by decide) (hw_lt v232)))
          have m461 : ∀ a, G428 a ≠ 0 → G428 a < 100 → G455 a = G428 a := fun a h0 h1 => i456 a (hHo.lt h0) (fun e => by rw [e, k431] at h1; exact absurd h1 (by decide))
          have g462 : ∀ x, x < s.heap.size → G455 x = G x := fun x h9 => (i456 x (Nat.lt_of_lt_of_le h9 hS0.1) (fun e => by have := w435; omega)).trans (g436 x h9)
          have k463 := hw_kg3 i456 hHo k431 k437 (by decide) (by decide)
          have k464 := hw_kg3 i456 hHo k431 k438 (by decide) (by decide)
          have k465 := hw_kg m461 k439 (by decide) (by decide)
          have k466 := hw_kg m461 k440 (by decide) (by decide)
          have k467 := hw_kg m461 k441 (by decide) (by decide)
          have k468 := hw_kg3 i456 hHo k431 k442 (by decide) (by decide)
          have k469 := hw_kg3 i456 hHo k431 k443 (by decide) (by decide)
          have k470 := hw_kg m461 k444 (by decide) (by decide)
          have k471 := hw_kg m461 k445 (by decide) (by decide)
          have k472 := hw_kg m461 k446 (by decide) (by decide)
          have k473 := hw_kg3 i456 hHo k431 k447 (by decide) (by decide)
          have R474 := hw_RC_mono m461 R448
          have R475 := hw_RT_mono m461 R449
          have R476 := hw_RS_mono m461 R450
          have q477 := hw_qq m461 q451 (by decide) (by decide)
          have q478 := hw_qq m461 q452 (by decide) (by decide)
          have q479 := hw_qq m461 q453 (by decide) (by decide)
          have q480 := hw_qq m461 q454 (by decide) (by decide)
          refine hw_aast (t := 5) (ci := 8) (q := (RX9, TX9, 7)) hx hb hK hH v80 rfl v460 rfl (fun comp c0 h1 h2 => by cases h1.symm.trans h2; exact va_asg _ _) (hw_in (x := 3) (by decide) (by decide)) (fun _ => by rw [k463]; exact ⟨_, rfl, hw_upq q477 k457⟩) hS (Or.inr w81) dX11_init_117 (fun H locs hH v80 oq hz hS => ?_)
          have va := va_at.kept va (oq _ (hw_ne k464 k463 (by decide)))
          have v17 := va_at.kept v17 (oq _ (hw_ne k465 k463 (by decide)))
          have v39 := va_at.kept v39 (oq _ (hw_ne k466 k463 (by decide)))
          have v65 := va_at.kept v65 (oq _ (hw_ne k467 k463 (by decide)))
          have v98 := va_at.kept v98 (oq _ (hw_ne k468 k463 (by decide)))
          have v118 := va_at.kept v118 (oq _ (hw_ne k469 k463 (by decide)))
          have v232 := va_at.kept v232 (oq _ (hw_ne k473 k463 (by decide)))
          have v460 := va_at.kept v460 (oq _ (hw_ne k457 k463 (by decide)))
          have q483 : ∀ j b, j < 8 → (va_up (va_up (va_up (va_up (fun _ => none) (0 : Int32).toNatClampNeg (some q253)) (1 : Int32).toNatClampNeg (some q311)) (2 : Int32).toNatClampNeg (some q369)) (3 : Int32).toNatClampNeg (some q427)) j = some b → G455 b = 7 := hw_upq q477 k457
          refine lv_iinc (v := 4) (lv' := [(1, .int 4), (0, .ref h0)]) hx hb dX11_init_118 hl (k := 0) rfl (by rfl) (by decide) rfl (fun ls hl => ?_)
          refine lv_goto (tgt := 99) hx hb dX11_init_121 (by decide) ?_
          refine lv_iload_n hx hb dX11_init_99 rfl (lv_at hl 0 rfl) ?_
          refine lv_bipush (v := 8) hx hb dX11_init_100 (by decide) ?_
          refine lv_icmp_ge (tgt := 124) hx hb dX11_init_102 (by decide) (fun c484 => ?_) (fun c484 => ?_)
          · exact absurd c484 (by decide)
          · refine lv_aload_n hx hb dX11_init_105 rfl (lv_at hl 1 rfl) ?_
            refine hw_get hx hb fg_30_10 hK va rfl dX11_init_106 ?_
            refine lv_iload_n hx hb dX11_init_109 rfl (lv_at hl 0 rfl) ?_
            have hS0 := hS
            refine hw_new hx hb 107 (ci := 8) (C := RX9) (T := TX9) (N := 7) hts (by decide +kernel) tyX9 tyX9_ok hown (hts (.classLink RX11 23 RX9) (by decide +kernel)) (hts (.instantiable RX9 7) (by decide +kernel)) (hts (.initialized RX9) (by decide +kernel)) hK hH hS rfl [.int 0, .int 0, .int 0, .null, .null, .null, .null] (fun j hj => by rcases (show j = 0 ∨ j = 1 ∨ j = 2 ∨ j = 3 ∨ j = 4 ∨ j = 5 ∨ j = 6 by omega) with rfl | rfl | rfl | rfl | rfl | rfl | rfl <;> rfl) (show hw_ok D.2.1 G455 107 _ from ⟨_, rfl⟩) (Nat.le_of_ble_eq_true rfl) (Nat.le_of_ble_eq_true rfl) dX11_init_110 (fun q485 G486 H hH m487 m488 k489 l490 e491 v492 oq hz hS => ?_)
            have w493 : s.heap.size ≤ q485 := by have := hS0.1; omega
            have g494 : ∀ x, x < s.heap.size → G486 x = G x := fun x h9 => (l490 x (Nat.lt_of_lt_of_le h9 hS0.1)).trans (g462 x h9)
            have va := va_at.kept va (oq _ (hw_lt va))
            have v17 := va_at.kept v17 (oq _ (hw_lt v17))
            have v39 := va_at.kept v39 (oq _ (hw_lt v39))
            have v65 := va_at.kept v65 (oq _ (hw_lt v65))
            have v80 := va_at.kept v80 (oq _ (hw_lt v80))
            have v98 := va_at.kept v98 (oq _ (hw_lt v98))
            have v118 := va_at.kept v118 (oq _ (hw_lt v118))
            have v232 := va_at.kept v232 (oq _ (hw_lt v232))
            have k495 := hw_kg2 m488 k463 (by decide)
            have k496 := hw_kg2 m488 k464 (by decide)
            have k497 := hw_kg m487 k465 (by decide) (by decide)
            have k498 := hw_kg m487 k466 (by decide) (by decide)
            have k499 := hw_kg m487 k467 (by decide) (by decide)
            have k500 := hw_kg2 m488 k468 (by decide)
            have k501 := hw_kg2 m488 k469 (by decide)
            have k502 := hw_kg m487 k470 (by decide) (by decide)
            have k503 := hw_kg m487 k471 (by decide) (by decide)
            have k504 := hw_kg m487 k472 (by decide) (by decide)
            have k505 := hw_kg2 m488 k473 (by decide)
            have R506 := hw_RC_mono m487 R474
            have R507 := hw_RT_mono m487 R475
            have R508 := hw_RS_mono m487 R476
            have q509 := hw_qq m487 q483 (by decide) (by decide)
            have q510 := hw_qq m487 q478 (by decide) (by decide)
            have q511 := hw_qq m487 q479 (by decide) (by decide)
            have q512 := hw_qq m487 q480 (by decide) (by decide)
            refine lv_dup hx hb dX11_init_113 rfl ?_
            have hHo := hH
            have hS0 := hS
            refine hw_cM (va_runIN (As := []) (rest := [.ref q485, .int 4, .ref q73]) ⟨hx, hb, hml, hown, hts⟩ (k_X9_init l D G486 q485 _ k489) ⟨va_cnB 0 hts gX11_init_X9_init_n25 rfl rfl rfl (hw_en25 hST.ex) (hts (.initialized RX9) (by decide +kernel)) (by decide +kernel) ⟨Nat.le_of_ble_eq_true rfl, Nat.le_of_ble_eq_true rfl⟩, rfl, hts (.instanceMethod yX9_init) (by decide +kernel)⟩ (hw_pS hH hK hST hS (by decide) (hw_hG g494) v492) rfl rfl hl.1 rfl (lv_room (Nat.le_of_ble_eq_true rfl)) dX11_init_114 ⟨Nat.le_of_ble_eq_true rfl, Nat.le_of_ble_eq_true rfl⟩) hS (hw_AWsub (by decide) g494 hS.1) (fun v H locs hp hz hk hS => ?_)
            obtain ⟨G513, r516, rfl, hH, i514, k515, R517, v518⟩ := hp
            have va := va_at.kept va (hk _ (hw_lt va) (hw_AWn k496 (by decide) (hw_lt va)))
            have v17 := va_at.kept v17 (hk _ (hw_lt v17) (hw_AWn k497 (by decide) (hw_lt v17)))
            have v39 := va_at.kept v39 (hk _ (hw_lt v39) (hw_AWn k498 (by decide) (hw_lt v39)))
            have v65 := va_at.kept v65 (hk _ (hw_lt v65) (hw_AWn k499 (by decide) (hw_lt v65)))
            have v80 := va_at.kept v80 (hk _ (hw_lt v80) (hw_AWn k495 (by decide) (hw_lt v80)))
            have v98 := va_at.kept v98 (hk _ (hw_lt v98) (hw_AWn k500 (by decide) (hw_lt v98)))
            have v118 := va_at.kept v118 (hk _ (hw_lt v118) (hw_AWn k501 (by decide) (hw_lt v118)))
            have v232 := va_at.kept v232 (hk _ (hw_lt v232) (hw_AWn k505 (by decide) (hw_lt v232)))
            have m519 : ∀ a, G486 a ≠ 0 → G486 a < 100 → G513 a = G486 a := fun a h0 h1 => i514 a (hHo.lt h0) (fun e => by rw [e, k489] at h1; exact absurd h1 (by decide))
            have g520 : ∀ x, x < s.heap.size → G513 x = G x := fun x h9 => (i514 x (Nat.lt_of_lt_of_le h9 hS0.1) (fun e => by have := w493; omega)).trans (g494 x h9)
            have k521 := hw_kg3 i514 hHo k489 k495 (by decide) (by decide)
            have k522 := hw_kg3 i514 hHo k489 k496 (by decide) (by decide)
            have k523 := hw_kg m519 k497 (by decide) (by decide)
            have k524 := hw_kg m519 k498 (by decide) (by decide)
            have k525 := hw_kg m519 k499 (by decide) (by decide)
            have k526 := hw_kg3 i514 hHo k489 k500 (by decide) (by decide)
            have k527 := hw_kg3 i514 hHo k489 k501 (by decide) (by decide)
            have k528 := hw_kg m519 k502 (by decide) (by decide)
            have k529 := hw_kg m519 k503 (by decide) (by decide)
            have k530 := hw_kg m519 k504 (by decide) (by decide)
            have k531 := hw_kg3 i514 hHo k489 k505 (by decide) (by decide)
            have R532 := hw_RC_mono m519 R506
            have R533 := hw_RT_mono m519 R507
            have R534 := hw_RS_mono m519 R508
            have q535 := hw_qq m519 q509 (by decide) (by decide)
            have q536 := hw_qq m519 q510 (by decide) (by decide)
            have q537 := hw_qq m519 q511 (by decide) (by decide)
            have q538 := hw_qq m519 q512 (by decide) (by decide)
            refine hw_aast (t := 5) (ci := 8) (q := (RX9, TX9, 7)) hx hb hK hH v80 rfl v518 rfl (fun comp c0 h1 h2 => by cases h1.symm.trans h2; exact va_asg _ _) (hw_in (x := 4) (by decide) (by decide)) (fun _ => by rw [k521]; exact ⟨_, rfl, hw_upq q535 k515⟩) hS (Or.inr w81) dX11_init_117 (fun H locs hH v80 oq hz hS => ?_)
            have va := va_at.kept va (oq _ (hw_ne k522 k521 (by decide)))
            have v17 := va_at.kept v17 (oq _ (hw_ne k523 k521 (by decide)))
            have v39 := va_at.kept v39 (oq _ (hw_ne k524 k521 (by decide)))
            have v65 := va_at.kept v65 (oq _ (hw_ne k525 k521 (by decide)))
            have v98 := va_at.kept v98 (oq _ (hw_ne k526 k521 (by decide)))
            have v118 := va_at.kept v118 (oq _ (hw_ne k527 k521 (by decide)))
            have v232 := va_at.kept v232 (oq _ (hw_ne k531 k521 (by decide)))
            have v518 := va_at.kept v518 (oq _ (hw_ne k515 k521 (by decide)))
            have q541 : ∀ j b, j < 8 → (va_up (va_up (va_up (va_up (va_up (fun _ => none) (0 : Int32).toNatClampNeg (some q253)) (1 : Int32).toNatClampNeg (some q311)) (2 : Int32).toNatClampNeg (some q369)) (3 : Int32).toNatClampNeg (some q427)) (4 : Int32).toNatClampNeg (some q485)) j = some b → G513 b = 7 := hw_upq q535 k515
            refine lv_iinc (v := 5) (lv' := [(1, .int 5), (0, .ref h0)]) hx hb dX11_init_118 hl (k := 0) rfl (by rfl) (by decide) rfl (fun ls hl => ?_)
            refine lv_goto (tgt := 99) hx hb dX11_init_121 (by decide) ?_
            refine lv_iload_n hx hb dX11_init_99 rfl (lv_at hl 0 rfl) ?_
            refine lv_bipush (v := 8) hx hb dX11_init_100 (by decide) ?_
            refine lv_icmp_ge (tgt := 124) hx hb dX11_init_102 (by decide) (fun c542 => ?_) (fun c542 => ?_)
            · exact absurd c542 (by decide)
            · refine lv_aload_n hx hb dX11_init_105 rfl (lv_at hl 1 rfl) ?_
              refine hw_get hx hb fg_30_10 hK va rfl dX11_init_106 ?_
              refine lv_iload_n hx hb dX11_init_109 rfl (lv_at hl 0 rfl) ?_
              have hS0 := hS
              refine hw_new hx hb 107 (ci := 8) (C := RX9) (T := TX9) (N := 7) hts (by decide +kernel) tyX9 tyX9_ok hown (hts (.classLink RX11 23 RX9) (by decide +kernel)) (hts (.instantiable RX9 7) (by decide +kernel)) (hts (.initialized RX9) (by decide +kernel)) hK hH hS rfl [.int 0, .int 0, .int 0, .null, .null, .null, .null] (fun j hj => by rcases (show j = 0 ∨ j = 1 ∨ j = 2 ∨ j = 3 ∨ j = 4 ∨ j = 5 ∨ j = 6 by omega) with rfl | rfl | rfl | rfl | rfl | rfl | rfl <;> rfl) (show hw_ok D.2.1 G513 107 _ from ⟨_, rfl⟩) (Nat.le_of_ble_eq_true rfl) (Nat.le_of_ble_eq_true rfl) dX11_init_110 (fun q543 G544 H hH m545 m546 k547 l548 e549 v550 oq hz hS => ?_)
              have w551 : s.heap.size ≤ q543 := by have := hS0.1; omega
              have g552 : ∀ x, x < s.heap.size → G544 x = G x := fun x h9 => (l548 x (Nat.lt_of_lt_of_le h9 hS0.1)).trans (g520 x h9)
              have va := va_at.kept va (oq _ (hw_lt va))
              have v17 := va_at.kept v17 (oq _ (hw_lt v17))
              have v39 := va_at.kept v39 (oq _ (hw_lt v39))
              have v65 := va_at.kept v65 (oq _ (hw_lt v65))
              have v80 := va_at.kept v80 (oq _ (hw_lt v80))
              have v98 := va_at.kept v98 (oq _ (hw_lt v98))
              have v118 := va_at.kept v118 (oq _ (hw_lt v118))
              have v232 := va_at.kept v232 (oq _ (hw_lt v232))
              have k553 := hw_kg2 m546 k521 (by decide)
              have k554 := hw_kg2 m546 k522 (by decide)
              have k555 := hw_kg m545 k523 (by decide) (by decide)
              have k556 := hw_kg m545 k524 (by decide) (by decide)
              have k557 := hw_kg m545 k525 (by decide) (by decide)
              have k558 := hw_kg2 m546 k526 (by decide)
              have k559 := hw_kg2 m546 k527 (by decide)
              have k560 := hw_kg m545 k528 (by decide) (by decide)
              have k561 := hw_kg m545 k529 (by decide) (by decide)
              have k562 := hw_kg m545 k530 (by decide) (by decide)
              have k563 := hw_kg2 m546 k531 (by decide)
              have R564 := hw_RC_mono m545 R532
              have R565 := hw_RT_mono m545 R533
              have R566 := hw_RS_mono m545 R534
              have q567 := hw_qq m545 q541 (by decide) (by decide)
              have q568 := hw_qq m545 q536 (by decide) (by decide)
              have q569 := hw_qq m545 q537 (by decide) (by decide)
              have q570 := hw_qq m545 q538 (by decide) (by decide)
              refine lv_dup hx hb dX11_init_113 rfl ?_
              have hHo := hH
              have hS0 := hS
              refine hw_cM (va_runIN (As := []) (rest := [.ref q543, .int 5, .ref q73]) ⟨hx, hb, hml, hown, hts⟩ (k_X9_init l D G544 q543 _ k547) ⟨va_cnB 0 hts gX11_init_X9_init_n25 rfl rfl rfl (hw_en25 hST.ex) (hts (.initialized RX9) (by decide +kernel)) (by decide +kernel) ⟨Nat.le_of_ble_eq_true rfl, Nat.le_of_ble_eq_true rfl⟩, rfl, hts (.instanceMethod yX9_init) (by decide +kernel)⟩ (hw_pS hH hK hST hS (by decide) (hw_hG g552) v550) rfl rfl hl.1 rfl (lv_room (Nat.le_of_ble_eq_true rfl)) dX11_init_114 ⟨Nat.le_of_ble_eq_true rfl, Nat.le_of_ble_eq_true rfl⟩) hS (hw_AWsub (by decide) g552 hS.1) (fun v H locs hp hz hk hS => ?_)
              obtain ⟨G571, r574, rfl, hH, i572, k573, R575, v576⟩ := hp
              have va := va_at.kept va (hk _ (hw_lt va) (hw_AWn k554 (by decide) (hw_lt va)))
              have v17 := va_at.kept v17 (hk _ (hw_lt v17) (hw_AWn k555 (by decide) (hw_lt v17)))
              have v39 := va_at.kept v39 (hk _ (hw_lt v39) (hw_AWn k556 (by decide) (hw_lt v39)))
              have v65 := va_at.kept v65 (hk _ (hw_lt v65) (hw_AWn k557 (by decide) (hw_lt v65)))
              have v80 := va_at.kept v80 (hk _ (hw_lt v80) (hw_AWn k553 (by decide) (hw_lt v80)))
              have v98 := va_at.kept v98 (hk _ (hw_lt v98) (hw_AWn k558 (by decide) (hw_lt v98)))
              have v118 := va_at.kept v118 (hk _ (hw_lt v118) (hw_AWn k559 (by decide) (hw_lt v118)))
              have v232 := va_at.kept v232 (hk _ (hw_lt v232) (hw_AWn k563 (by decide) (hw_lt v232)))
              have m577 : ∀ a, G544 a ≠ 0 → G544 a < 100 → G571 a = G544 a := fun a h0 h1 => i572 a (hHo.lt h0) (fun e => by rw [e, k547] at h1; exact absurd h1 (by decide))
              have g578 : ∀ x, x < s.heap.size → G571 x = G x := fun x h9 => (i572 x (Nat.lt_of_lt_of_le h9 hS0.1) (fun e => by have := w551; omega)).trans (g552 x h9)
              have k579 := hw_kg3 i572 hHo k547 k553 (by decide) (by decide)
              have k580 := hw_kg3 i572 hHo k547 k554 (by decide) (by decide)
              have k581 := hw_kg m577 k555 (by decide) (by decide)
              have k582 := hw_kg m577 k556 (by decide) (by decide)
              have k583 := hw_kg m577 k557 (by decide) (by decide)
              have k584 := hw_kg3 i572 hHo k547 k558 (by decide) (by decide)
              have k585 := hw_kg3 i572 hHo k547 k559 (by decide) (by decide)
              have k586 := hw_kg m577 k560 (by decide) (by decide)
              have k587 := hw_kg m577 k561 (by decide) (by decide)
              have k588 := hw_kg m577 k562 (by decide) (by decide)
              have k589 := hw_kg3 i572 hHo k547 k563 (by decide) (by decide)
              have R590 := hw_RC_mono m577 R564
              have R591 := hw_RT_mono m577 R565
              have R592 := hw_RS_mono m577 R566
              have q593 := hw_qq m577 q567 (by decide) (by decide)
              have q594 := hw_qq m577 q568 (by decide) (by decide)
              have q595 := hw_qq m577 q569 (by decide) (by decide)
              have q596 := hw_qq m577 q570 (by decide) (by decide)
              refine hw_aast (t := 5) (ci := 8) (q := (RX9, TX9, 7)) hx hb hK hH v80 rfl v576 rfl (fun comp c0 h1 h2 => by cases h1.symm.trans h2; exact va_asg _ _) (hw_in (x := 5) (by decide) (by decide)) (fun _ => by rw [k579]; exact ⟨_, rfl, hw_upq q593 k573⟩) hS (Or.inr w81) dX11_init_117 (fun H locs hH v80 oq hz hS => ?_)
              have va := va_at.kept va (oq _ (hw_ne k580 k579 (by decide)))
              have v17 := va_at.kept v17 (oq _ (hw_ne k581 k579 (by decide)))
              have v39 := va_at.kept v39 (oq _ (hw_ne k582 k579 (by decide)))
              have v65 := va_at.kept v65 (oq _ (hw_ne k583 k579 (by decide)))
              have v98 := va_at.kept v98 (oq _ (hw_ne k584 k579 (by decide)))
              have v118 := va_at.kept v118 (oq _ (hw_ne k585 k579 (by decide)))
              have v232 := va_at.kept v232 (oq _ (hw_ne k589 k579 (by decide)))
              have v576 := va_at.kept v576 (oq _ (hw_ne k573 k579 (by decide)))
              have q599 : ∀ j b, j < 8 → (va_up (va_up (va_up (va_up (va_up (va_up (fun _ => none) (0 : Int32).toNatClampNeg (some q253)) (1 : Int32).toNatClampNeg (some q311)) (2 : Int32).toNatClampNeg (some q369)) (3 : Int32).toNatClampNeg (some q427)) (4 : Int32).toNatClampNeg (some q485)) (5 : Int32).toNatClampNeg (some q543)) j = some b → G571 b = 7 := hw_upq q593 k573
              refine lv_iinc (v := 6) (lv' := [(1, .int 6), (0, .ref h0)]) hx hb dX11_init_118 hl (k := 0) rfl (by rfl) (by decide) rfl (fun ls hl => ?_)
              refine lv_goto (tgt := 99) hx hb dX11_init_121 (by decide) ?_
              refine lv_iload_n hx hb dX11_init_99 rfl (lv_at hl 0 rfl) ?_
              refine lv_bipush (v := 8) hx hb dX11_init_100 (by decide) ?_
              refine lv_icmp_ge (tgt := 124) hx hb dX11_init_102 (by decide) (fun c600 => ?_) (fun c600 => ?_)
              · exact absurd c600 (by decide)
              · refine lv_aload_n hx hb dX11_init_105 rfl (lv_at hl 1 rfl) ?_
                refine hw_get hx hb fg_30_10 hK va rfl dX11_init_106 ?_
                refine lv_iload_n hx hb dX11_init_109 rfl (lv_at hl 0 rfl) ?_
                have hS0 := hS
                refine hw_new hx hb 107 (ci := 8) (C := RX9) (T := TX9) (N := 7) hts (by decide +kernel) tyX9 tyX9_ok hown (hts (.classLink RX11 23 RX9) (by decide +kernel)) (hts (.instantiable RX9 7) (by decide +kernel)) (hts (.initialized RX9) (by decide +kernel)) hK hH hS rfl [.int 0, .int 0, .int 0, .null, .null, .null, .null] (fun j hj => by rcases (show j = 0 ∨ j = 1 ∨ j = 2 ∨ j = 3 ∨ j = 4 ∨ j = 5 ∨ j = 6 by omega) with rfl | rfl | rfl | rfl | rfl | rfl | rfl <;> rfl) (show hw_ok D.2.1 G571 107 _ from ⟨_, rfl⟩) (Nat.le_of_ble_eq_true rfl) (Nat.le_of_ble_eq_true rfl) dX11_init_110 (fun q601 G602 H hH m603 m604 k605 l606 e607 v608 oq hz hS => ?_)
                have w609 : s.heap.size ≤ q601 := by have := hS0.1; omega
                have g610 : ∀ x, x < s.heap.size → G602 x = G x := fun x h9 => (l606 x (Nat.lt_of_lt_of_le h9 hS0.1)).trans (g578 x h9)
                have va := va_at.kept va (oq _ (hw_lt va))
                have v17 := va_at.kept v17 (oq _ (hw_lt v17))
                have v39 := va_at.kept v39 (oq _ (hw_lt v39))
                have v65 := va_at.kept v65 (oq _ (hw_lt v65))
                have v80 := va_at.kept v80 (oq _ (hw_lt v80))
                have v98 := va_at.kept v98 (oq _ (hw_lt v98))
                have v118 := va_at.kept v118 (oq _ (hw_lt v118))
                have v232 := va_at.kept v232 (oq _ (hw_lt v232))
                have k611 := hw_kg2 m604 k579 (by decide)
                have k612 := hw_kg2 m604 k580 (by decide)
                have k613 := hw_kg m603 k581 (by decide) (by decide)
                have k614 := hw_kg m603 k582 (by decide) (by decide)
                have k615 := hw_kg m603 k583 (by decide) (by decide)
                have k616 := hw_kg2 m604 k584 (by decide)
                have k617 := hw_kg2 m604 k585 (by decide)
                have k618 := hw_kg m603 k586 (by decide) (by decide)
                have k619 := hw_kg m603 k587 (by decide) (by decide)
                have k620 := hw_kg m603 k588 (by decide) (by decide)
                have k621 := hw_kg2 m604 k589 (by decide)
                have R622 := hw_RC_mono m603 R590
                have R623 := hw_RT_mono m603 R591
                have R624 := hw_RS_mono m603 R592
                have q625 := hw_qq m603 q599 (by decide) (by decide)
                have q626 := hw_qq m603 q594 (by decide) (by decide)
                have q627 := hw_qq m603 q595 (by decide) (by decide)
                have q628 := hw_qq m603 q596 (by decide) (by decide)
                refine lv_dup hx hb dX11_init_113 rfl ?_
                have hHo := hH
                have hS0 := hS
                refine hw_cM (va_runIN (As := []) (rest := [.ref q601, .int 6, .ref q73]) ⟨hx, hb, hml, hown, hts⟩ (k_X9_init l D G602 q601 _ k605) ⟨va_cnB 0 hts gX11_init_X9_init_n25 rfl rfl rfl (hw_en25 hST.ex) (hts (.initialized RX9) (by decide +kernel)) (by decide +kernel) ⟨Nat.le_of_ble_eq_true rfl, Nat.le_of_ble_eq_true rfl⟩, rfl, hts (.instanceMethod yX9_init) (by decide +kernel)⟩ (hw_pS hH hK hST hS (by decide) (hw_hG g610) v608) rfl rfl hl.1 rfl (lv_room (Nat.le_of_ble_eq_true rfl)) dX11_init_114 ⟨Nat.le_of_ble_eq_true rfl, Nat.le_of_ble_eq_true rfl⟩) hS (hw_AWsub (by decide) g610 hS.1) (fun v H locs hp hz hk hS => ?_)
                obtain ⟨G629, r632, rfl, hH, i630, k631, R633, v634⟩ := hp
                have va := va_at.kept va (hk _ (hw_lt va) (hw_AWn k612 (by decide) (hw_lt va)))
                have v17 := va_at.kept v17 (hk _ (hw_lt v17) (hw_AWn k613 (by decide) (hw_lt v17)))
                have v39 := va_at.kept v39 (hk _ (hw_lt v39) (hw_AWn k614 (by decide) (hw_lt v39)))
                have v65 := va_at.kept v65 (hk _ (hw_lt v65) (hw_AWn k615 (by decide) (hw_lt v65)))
                have v80 := va_at.kept v80 (hk _ (hw_lt v80) (hw_AWn k611 (by decide) (hw_lt v80)))
                have v98 := va_at.kept v98 (hk _ (hw_lt v98) (hw_AWn k616 (by decide) (hw_lt v98)))
                have v118 := va_at.kept v118 (hk _ (hw_lt v118) (hw_AWn k617 (by decide) (hw_lt v118)))
                have v232 := va_at.kept v232 (hk _ (hw_lt v232) (hw_AWn k621 (by decide) (hw_lt v232)))
                have m635 : ∀ a, G602 a ≠ 0 → G602 a < 100 → G629 a = G602 a := fun a h0 h1 => i630 a (hHo.lt h0) (fun e => by rw [e, k605] at h1; exact absurd h1 (by decide))
                have g636 : ∀ x, x < s.heap.size → G629 x = G x := fun x h9 => (i630 x (Nat.lt_of_lt_of_le h9 hS0.1) (fun e => by have := w609; omega)).trans (g610 x h9)
                have k637 := hw_kg3 i630 hHo k605 k611 (by decide) (by decide)
                have k638 := hw_kg3 i630 hHo k605 k612 (by decide) (by decide)
                have k639 := hw_kg m635 k613 (by decide) (by decide)
                have k640 := hw_kg m635 k614 (by decide) (by decide)
                have k641 := hw_kg m635 k615 (by decide) (by decide)
                have k642 := hw_kg3 i630 hHo k605 k616 (by decide) (by decide)
                have k643 := hw_kg3 i630 hHo k605 k617 (by decide) (by decide)
                have k644 := hw_kg m635 k618 (by decide) (by decide)
                have k645 := hw_kg m635 k619 (by decide) (by decide)
                have k646 := hw_kg m635 k620 (by decide) (by decide)
                have k647 := hw_kg3 i630 hHo k605 k621 (by decide) (by decide)
                have R648 := hw_RC_mono m635 R622
                have R649 := hw_RT_mono m635 R623
                have R650 := hw_RS_mono m635 R624
                have q651 := hw_qq m635 q625 (by decide) (by decide)
                have q652 := hw_qq m635 q626 (by decide) (by decide)
                have q653 := hw_qq m635 q627 (by decide) (by decide)
                have q654 := hw_qq m635 q628 (by decide) (by decide)
                refine hw_aast (t := 5) (ci := 8) (q := (RX9, TX9, 7)) hx hb hK hH v80 rfl v634 rfl (fun comp c0 h1 h2 => by cases h1.symm.trans h2; exact va_asg _ _) (hw_in (x := 6) (by decide) (by decide)) (fun _ => by rw [k637]; exact ⟨_, rfl, hw_upq q651 k631⟩) hS (Or.inr w81) dX11_init_117 (fun H locs hH v80 oq hz hS => ?_)
                have va := va_at.kept va (oq _ (hw_ne k638 k637 (by decide)))
                have v17 := va_at.kept v17 (oq _ (hw_ne k639 k637 (by decide)))
                have v39 := va_at.kept v39 (oq _ (hw_ne k640 k637 (by decide)))
                have v65 := va_at.kept v65 (oq _ (hw_ne k641 k637 (by decide)))
                have v98 := va_at.kept v98 (oq _ (hw_ne k642 k637 (by decide)))
                have v118 := va_at.kept v118 (oq _ (hw_ne k643 k637 (by decide)))
                have v232 := va_at.kept v232 (oq _ (hw_ne k647 k637 (by decide)))
                have v634 := va_at.kept v634 (oq _ (hw_ne k631 k637 (by decide)))
                have q657 : ∀ j b, j < 8 → (va_up (va_up (va_up (va_up (va_up (va_up (va_up (fun _ => none) (0 : Int32).toNatClampNeg (some q253)) (1 : Int32).toNatClampNeg (some q311)) (2 : Int32).toNatClampNeg (some q369)) (3 : Int32).toNatClampNeg (some q427)) (4 : Int32).toNatClampNeg (some q485)) (5 : Int32).toNatClampNeg (some q543)) (6 : Int32).toNatClampNeg (some q601)) j = some b → G629 b = 7 := hw_upq q651 k631
                refine lv_iinc (v := 7) (lv' := [(1, .int 7), (0, .ref h0)]) hx hb dX11_init_118 hl (k := 0) rfl (by rfl) (by decide) rfl (fun ls hl => ?_)
                refine lv_goto (tgt := 99) hx hb dX11_init_121 (by decide) ?_
                refine lv_iload_n hx hb dX11_init_99 rfl (lv_at hl 0 rfl) ?_
                refine lv_bipush (v := 8) hx hb dX11_init_100 (by decide) ?_
                refine lv_icmp_ge (tgt := 124) hx hb dX11_init_102 (by decide) (fun c658 => ?_) (fun c658 => ?_)
                · exact absurd c658 (by decide)
                · refine lv_aload_n hx hb dX11_init_105 rfl (lv_at hl 1 rfl) ?_
                  refine hw_get hx hb fg_30_10 hK va rfl dX11_init_106 ?_
                  refine lv_iload_n hx hb dX11_init_109 rfl (lv_at hl 0 rfl) ?_
                  have hS0 := hS
                  refine hw_new hx hb 107 (ci := 8) (C := RX9) (T := TX9) (N := 7) hts (by decide +kernel) tyX9 tyX9_ok hown (hts (.classLink RX11 23 RX9) (by decide +kernel)) (hts (.instantiable RX9 7) (by decide +kernel)) (hts (.initialized RX9) (by decide +kernel)) hK hH hS rfl [.int 0, .int 0, .int 0, .null, .null, .null, .null] (fun j hj => by rcases (show j = 0 ∨ j = 1 ∨ j = 2 ∨ j = 3 ∨ j = 4 ∨ j = 5 ∨ j = 6 by omega) with rfl | rfl | rfl | rfl | rfl | rfl | rfl <;> rfl) (show hw_ok D.2.1 G629 107 _ from ⟨_, rfl⟩) (Nat.le_of_ble_eq_true rfl) (Nat.le_of_ble_eq_true rfl) dX11_init_110 (fun q659 G660 H hH m661 m662 k663 l664 e665 v666 oq hz hS => ?_)
                  have w667 : s.heap.size ≤ q659 := by have := hS0.1; omega
                  have g668 : ∀ x, x < s.heap.size → G660 x = G x := fun x h9 => (l664 x (Nat.lt_of_lt_of_le h9 hS0.1)).trans (g636 x h9)
                  have va := va_at.kept va (oq _ (hw_lt va))
                  have v17 := va_at.kept v17 (oq _ (hw_lt v17))
                  have v39 := va_at.kept v39 (oq _ (hw_lt v39))
                  have v65 := va_at.kept v65 (oq _ (hw_lt v65))
                  have v80 := va_at.kept v80 (oq _ (hw_lt v80))
                  have v98 := va_at.kept v98 (oq _ (hw_lt v98))
                  have v118 := va_at.kept v118 (oq _ (hw_lt v118))
                  have v232 := va_at.kept v232 (oq _ (hw_lt v232))
                  have k669 := hw_kg2 m662 k637 (by decide)
                  have k670 := hw_kg2 m662 k638 (by decide)
                  have k671 := hw_kg m661 k639 (by decide) (by decide)
                  have k672 := hw_kg m661 k640 (by decide) (by decide)
                  have k673 := hw_kg m661 k641 (by decide) (by decide)
                  have k674 := hw_kg2 m662 k642 (by decide)
                  have k675 := hw_kg2 m662 k643 (by decide)
                  have k676 := hw_kg m661 k644 (by decide) (by decide)
                  have k677 := hw_kg m661 k645 (by decide) (by decide)
                  have k678 := hw_kg m661 k646 (by decide) (by decide)
                  have k679 := hw_kg2 m662 k647 (by decide)
                  have R680 := hw_RC_mono m661 R648
                  have R681 := hw_RT_mono m661 R649
                  have R682 := hw_RS_mono m661 R650
                  have q683 := hw_qq m661 q657 (by decide) (by decide)
                  have q684 := hw_qq m661 q652 (by decide) (by decide)
                  have q685 := hw_qq m661 q653 (by decide) (by decide)
                  have q686 := hw_qq m661 q654 (by decide) (by decide)
                  refine lv_dup hx hb dX11_init_113 rfl ?_
                  have hHo := hH
                  have hS0 := hS
                  refine hw_cM (va_runIN (As := []) (rest := [.ref q659, .int 7, .ref q73]) ⟨hx, hb, hml, hown, hts⟩ (k_X9_init l D G660 q659 _ k663) ⟨va_cnB 0 hts gX11_init_X9_init_n25 rfl rfl rfl (hw_en25 hST.ex) (hts (.initialized RX9) (by decide +kernel)) (by decide +kernel) ⟨Nat.le_of_ble_eq_true rfl, Nat.le_of_ble_eq_true rfl⟩, rfl, hts (.instanceMethod yX9_init) (by decide +kernel)⟩ (hw_pS hH hK hST hS (by decide) (hw_hG g668) v666) rfl rfl hl.1 rfl (lv_room (Nat.le_of_ble_eq_true rfl)) dX11_init_114 ⟨Nat.le_of_ble_eq_true rfl, Nat.le_of_ble_eq_true rfl⟩) hS (hw_AWsub (by decide) g668 hS.1) (fun v H locs hp hz hk hS => ?_)
                  obtain ⟨G687, r690, rfl, hH, i688, k689, R691, v692⟩ := hp
                  have va := va_at.kept va (hk _ (hw_lt va) (hw_AWn k670 (by decide) (hw_lt va)))
                  have v17 := va_at.kept v17 (hk _ (hw_lt v17) (hw_AWn k671 (by decide) (hw_lt v17)))
                  have v39 := va_at.kept v39 (hk _ (hw_lt v39) (hw_AWn k672 (by decide) (hw_lt v39)))
                  have v65 := va_at.kept v65 (hk _ (hw_lt v65) (hw_AWn k673 (by decide) (hw_lt v65)))
                  have v80 := va_at.kept v80 (hk _ (hw_lt v80) (hw_AWn k669 (by decide) (hw_lt v80)))
                  have v98 := va_at.kept v98 (hk _ (hw_lt v98) (hw_AWn k674 (by decide) (hw_lt v98)))
                  have v118 := va_at.kept v118 (hk _ (hw_lt v118) (hw_AWn k675 (by decide) (hw_lt v118)))
                  have v232 := va_at.kept v232 (hk _ (hw_lt v232) (hw_AWn k679 (by decide) (hw_lt v232)))
                  have m693 : ∀ a, G660 a ≠ 0 → G660 a < 100 → G687 a = G660 a := fun a h0 h1 => i688 a (hHo.lt h0) (fun e => by rw [e, k663] at h1; exact absurd h1 (by decide))
                  have g694 : ∀ x, x < s.heap.size → G687 x = G x := fun x h9 => (i688 x (Nat.lt_of_lt_of_le h9 hS0.1) (fun e => by have := w667; omega)).trans (g668 x h9)
                  have k695 := hw_kg3 i688 hHo k663 k669 (by decide) (by decide)
                  have k696 := hw_kg3 i688 hHo k663 k670 (by decide) (by decide)
                  have k697 := hw_kg m693 k671 (by decide) (by decide)
                  have k698 := hw_kg m693 k672 (by decide) (by decide)
                  have k699 := hw_kg m693 k673 (by decide) (by decide)
                  have k700 := hw_kg3 i688 hHo k663 k674 (by decide) (by decide)
                  have k701 := hw_kg3 i688 hHo k663 k675 (by decide) (by decide)
                  have k702 := hw_kg m693 k676 (by decide) (by decide)
                  have k703 := hw_kg m693 k677 (by decide) (by decide)
                  have k704 := hw_kg m693 k678 (by decide) (by decide)
                  have k705 := hw_kg3 i688 hHo k663 k679 (by decide) (by decide)
                  have R706 := hw_RC_mono m693 R680
                  have R707 := hw_RT_mono m693 R681
                  have R708 := hw_RS_mono m693 R682
                  have q709 := hw_qq m693 q683 (by decide) (by decide)
                  have q710 := hw_qq m693 q684 (by decide) (by decide)
                  have q711 := hw_qq m693 q685 (by decide) (by decide)
                  have q712 := hw_qq m693 q686 (by decide) (by decide)
                  refine hw_aast (t := 5) (ci := 8) (q := (RX9, TX9, 7)) hx hb hK hH v80 rfl v692 rfl (fun comp c0 h1 h2 => by cases h1.symm.trans h2; exact va_asg _ _) (hw_in (x := 7) (by decide) (by decide)) (fun _ => by rw [k695]; exact ⟨_, rfl, hw_upq q709 k689⟩) hS (Or.inr w81) dX11_init_117 (fun H locs hH v80 oq hz hS => ?_)
                  have va := va_at.kept va (oq _ (hw_ne k696 k695 (by decide)))
                  have v17 := va_at.kept v17 (oq _ (hw_ne k697 k695 (by decide)))
                  have v39 := va_at.kept v39 (oq _ (hw_ne k698 k695 (by decide)))
                  have v65 := va_at.kept v65 (oq _ (hw_ne k699 k695 (by decide)))
                  have v98 := va_at.kept v98 (oq _ (hw_ne k700 k695 (by decide)))
                  have v118 := va_at.kept v118 (oq _ (hw_ne k701 k695 (by decide)))
                  have v232 := va_at.kept v232 (oq _ (hw_ne k705 k695 (by decide)))
                  have v692 := va_at.kept v692 (oq _ (hw_ne k689 k695 (by decide)))
                  have q715 : ∀ j b, j < 8 → (va_up (va_up (va_up (va_up (va_up (va_up (va_up (va_up (fun _ => none) (0 : Int32).toNatClampNeg (some q253)) (1 : Int32).toNatClampNeg (some q311)) (2 : Int32).toNatClampNeg (some q369)) (3 : Int32).toNatClampNeg (some q427)) (4 : Int32).toNatClampNeg (some q485)) (5 : Int32).toNatClampNeg (some q543)) (6 : Int32).toNatClampNeg (some q601)) (7 : Int32).toNatClampNeg (some q659)) j = some b → G687 b = 7 := hw_upq q709 k689
                  refine lv_iinc (v := 8) (lv' := [(1, .int 8), (0, .ref h0)]) hx hb dX11_init_118 hl (k := 0) rfl (by rfl) (by decide) rfl (fun ls hl => ?_)
                  refine lv_goto (tgt := 99) hx hb dX11_init_121 (by decide) ?_
                  refine lv_iload_n hx hb dX11_init_99 rfl (lv_at hl 0 rfl) ?_
                  refine lv_bipush (v := 8) hx hb dX11_init_100 (by decide) ?_
                  refine lv_icmp_ge (tgt := 124) hx hb dX11_init_102 (by decide) (fun c716 => ?_) (fun c716 => ?_)
                  · refine lv_iconst (v := 0) hx hb dX11_init_124 (by decide) ?_
                    refine lv_istore_n (lv' := [(1, .int 0), (0, .ref h0)]) hx hb dX11_init_125 rfl hl (by decide) rfl (fun ls hl => ?_)
                    refine lv_iload_n hx hb dX11_init_126 rfl (lv_at hl 0 rfl) ?_
                    refine lv_iconst (v := 2) hx hb dX11_init_127 (by decide) ?_
                    refine lv_icmp_ge (tgt := 163) hx hb dX11_init_128 (by decide) (fun c717 => ?_) (fun c717 => ?_)
                    · exact absurd c717 (by decide)
                    · refine lv_aload_n hx hb dX11_init_131 rfl (lv_at hl 1 rfl) ?_
                      refine hw_get hx hb fg_34_10 hK va rfl dX11_init_132 ?_
                      refine lv_iload_n hx hb dX11_init_135 rfl (lv_at hl 0 rfl) ?_
                      have hS0 := hS
                      refine hw_new hx hb 107 (ci := 8) (C := RX9) (T := TX9) (N := 7) hts (by decide +kernel) tyX9 tyX9_ok hown (hts (.classLink RX11 23 RX9) (by decide +kernel)) (hts (.instantiable RX9 7) (by decide +kernel)) (hts (.initialized RX9) (by decide +kernel)) hK hH hS rfl [.int 0, .int 0, .int 0, .null, .null, .null, .null] (fun j hj => by rcases (show j = 0 ∨ j = 1 ∨ j = 2 ∨ j = 3 ∨ j = 4 ∨ j = 5 ∨ j = 6 by omega) with rfl | rfl | rfl | rfl | rfl | rfl | rfl <;> rfl) (show hw_ok D.2.1 G687 107 _ from ⟨_, rfl⟩) (Nat.le_of_ble_eq_true rfl) (Nat.le_of_ble_eq_true rfl) dX11_init_136 (fun q718 G719 H hH m720 m721 k722 l723 e724 v725 oq hz hS => ?_)
                      have w726 : s.heap.size ≤ q718 := by have := hS0.1; omega
                      have g727 : ∀ x, x < s.heap.size → G719 x = G x := fun x h9 => (l723 x (Nat.lt_of_lt_of_le h9 hS0.1)).trans (g694 x h9)
                      have va := va_at.kept va (oq _ (hw_lt va))
                      have v17 := va_at.kept v17 (oq _ (hw_lt v17))
                      have v39 := va_at.kept v39 (oq _ (hw_lt v39))
                      have v65 := va_at.kept v65 (oq _ (hw_lt v65))
                      have v80 := va_at.kept v80 (oq _ (hw_lt v80))
                      have v98 := va_at.kept v98 (oq _ (hw_lt v98))
                      have v118 := va_at.kept v118 (oq _ (hw_lt v118))
                      have v232 := va_at.kept v232 (oq _ (hw_lt v232))
                      have k728 := hw_kg2 m721 k700 (by decide)
                      have k729 := hw_kg2 m721 k696 (by decide)
                      have k730 := hw_kg m720 k697 (by decide) (by decide)
                      have k731 := hw_kg m720 k698 (by decide) (by decide)
                      have k732 := hw_kg m720 k699 (by decide) (by decide)
                      have k733 := hw_kg2 m721 k695 (by decide)
                      have k734 := hw_kg2 m721 k701 (by decide)
                      have k735 := hw_kg m720 k702 (by decide) (by decide)
                      have k736 := hw_kg m720 k703 (by decide) (by decide)
                      have k737 := hw_kg m720 k704 (by decide) (by decide)
                      have k738 := hw_kg2 m721 k705 (by decide)
                      have R739 := hw_RC_mono m720 R706
                      have R740 := hw_RT_mono m720 R707
                      have R741 := hw_RS_mono m720 R708
                      have q742 := hw_qq m720 q715 (by decide) (by decide)
                      have q743 := hw_qq m720 q710 (by decide) (by decide)
                      have q744 := hw_qq m720 q711 (by decide) (by decide)
                      have q745 := hw_qq m720 q712 (by decide) (by decide)
                      refine lv_dup hx hb dX11_init_139 rfl ?_
                      have hHo := hH
                      have hS0 := hS
                      refine hw_cM (va_runIN (As := []) (rest := [.ref q718, .int 0, .ref q91]) ⟨hx, hb, hml, hown, hts⟩ (k_X9_init l D G719 q718 _ k722) ⟨va_cnB 0 hts gX11_init_X9_init_n25 rfl rfl rfl (hw_en25 hST.ex) (hts (.initialized RX9) (by decide +kernel)) (by decide +kernel) ⟨Nat.le_of_ble_eq_true rfl, Nat.le_of_ble_eq_true rfl⟩, rfl, hts (.instanceMethod yX9_init) (by decide +kernel)⟩ (hw_pS hH hK hST hS (by decide) (hw_hG g727) v725) rfl rfl hl.1 rfl (lv_room (Nat.le_of_ble_eq_true rfl)) dX11_init_140 ⟨Nat.le_of_ble_eq_true rfl, Nat.le_of_ble_eq_true rfl⟩) hS (hw_AWsub (by decide) g727 hS.1) (fun v H locs hp hz hk hS => ?_)
                      obtain ⟨G746, r749, rfl, hH, i747, k748, R750, v751⟩ := hp
                      have va := va_at.kept va (hk _ (hw_lt va) (hw_AWn k729 (by decide) (hw_lt va)))
                      have v17 := va_at.kept v17 (hk _ (hw_lt v17) (hw_AWn k730 (by decide) (hw_lt v17)))
                      have v39 := va_at.kept v39 (hk _ (hw_lt v39) (hw_AWn k731 (by decide) (hw_lt v39)))
                      have v65 := va_at.kept v65 (hk _ (hw_lt v65) (hw_AWn k732 (by decide) (hw_lt v65)))
                      have v80 := va_at.kept v80 (hk _ (hw_lt v80) (hw_AWn k733 (by decide) (hw_lt v80)))
                      have v98 := va_at.kept v98 (hk _ (hw_lt v98) (hw_AWn k728 (by decide) (hw_lt v98)))
                      have v118 := va_at.kept v118 (hk _ (hw_lt v118) (hw_AWn k734 (by decide) (hw_lt v118)))
                      have v232 := va_at.kept v232 (hk _ (hw_lt v232) (hw_AWn k738 (by decide) (hw_lt v232)))
                      have m752 : ∀ a, G719 a ≠ 0 → G719 a < 100 → G746 a = G719 a := fun a h0 h1 => i747 a (hHo.lt h0) (fun e => by rw [e, k722] at h1; exact absurd h1 (by decide))
                      have g753 : ∀ x, x < s.heap.size → G746 x = G x := fun x h9 => (i747 x (Nat.lt_of_lt_of_le h9 hS0.1) (fun e => by have := w726; omega)).trans (g727 x h9)
                      have k754 := hw_kg3 i747 hHo k722 k728 (by decide) (by decide)
                      have k755 := hw_kg3 i747 hHo k722 k729 (by decide) (by decide)
                      have k756 := hw_kg m752 k730 (by decide) (by decide)
                      have k757 := hw_kg m752 k731 (by decide) (by decide)
                      have k758 := hw_kg m752 k732 (by decide) (by decide)
                      have k759 := hw_kg3 i747 hHo k722 k733 (by decide) (by decide)
                      have k760 := hw_kg3 i747 hHo k722 k734 (by decide) (by decide)
                      have k761 := hw_kg m752 k735 (by decide) (by decide)
                      have k762 := hw_kg m752 k736 (by decide) (by decide)
                      have k763 := hw_kg m752 k737 (by decide) (by decide)
                      have k764 := hw_kg3 i747 hHo k722 k738 (by decide) (by decide)
                      have R765 := hw_RC_mono m752 R739
                      have R766 := hw_RT_mono m752 R740
                      have R767 := hw_RS_mono m752 R741
                      have q768 := hw_qq m752 q742 (by decide) (by decide)
                      have q769 := hw_qq m752 q743 (by decide) (by decide)
                      have q770 := hw_qq m752 q744 (by decide) (by decide)
                      have q771 := hw_qq m752 q745 (by decide) (by decide)
                      refine hw_aast (t := 5) (ci := 8) (q := (RX9, TX9, 7)) hx hb hK hH v98 rfl v751 rfl (fun comp c0 h1 h2 => by cases h1.symm.trans h2; exact va_asg _ _) (hw_in (x := 0) (by decide) (by decide)) (fun _ => by rw [k754]; exact ⟨_, rfl, hw_upq q769 k748⟩) hS (Or.inr w99) dX11_init_143 (fun H locs hH v98 oq hz hS => ?_)
                      have va := va_at.kept va (oq _ (hw_ne k755 k754 (by decide)))
                      have v17 := va_at.kept v17 (oq _ (hw_ne k756 k754 (by decide)))
                      have v39 := va_at.kept v39 (oq _ (hw_ne k757 k754 (by decide)))
                      have v65 := va_at.kept v65 (oq _ (hw_ne k758 k754 (by decide)))
                      have v80 := va_at.kept v80 (oq _ (hw_ne k759 k754 (by decide)))
                      have v118 := va_at.kept v118 (oq _ (hw_ne k760 k754 (by decide)))
                      have v232 := va_at.kept v232 (oq _ (hw_ne k764 k754 (by decide)))
                      have v751 := va_at.kept v751 (oq _ (hw_ne k748 k754 (by decide)))
                      have q774 : ∀ j b, j < 2 → (va_up (fun _ => none) (0 : Int32).toNatClampNeg (some q718)) j = some b → G746 b = 7 := hw_upq q769 k748
                      refine lv_aload_n hx hb dX11_init_144 rfl (lv_at hl 1 rfl) ?_
                      refine hw_get hx hb fg_37_10 hK va rfl dX11_init_145 ?_
                      refine lv_iload_n hx hb dX11_init_148 rfl (lv_at hl 0 rfl) ?_
                      have hS0 := hS
                      refine hw_new hx hb 108 (ci := 9) (C := RX10) (T := TX10) (N := 10) hts (by decide +kernel) tyX10 tyX10_ok hown (hts (.classLink RX11 16 RX10) (by decide +kernel)) (hts (.instantiable RX10 10) (by decide +kernel)) (hts (.initialized RX10) (by decide +kernel)) hK hH hS rfl [.null, .int 0, .int 0, .null, .null, .int 0, .int 0, .int 0, .int 0, .int 0] (fun j hj => by rcases (show j = 0 ∨ j = 1 ∨ j = 2 ∨ j = 3 ∨ j = 4 ∨ j = 5 ∨ j = 6 ∨ j = 7 ∨ j = 8 ∨ j = 9 by omega) with rfl | rfl | rfl | rfl | rfl | rfl | rfl | rfl | rfl | rfl <;> rfl) (show hw_ok D.2.1 G746 108 _ from ⟨_, rfl⟩) (Nat.le_of_ble_eq_true rfl) (Nat.le_of_ble_eq_true rfl) dX11_init_149 (fun q775 G776 H hH m777 m778 k779 l780 e781 v782 oq hz hS => ?_)
                      have w783 : s.heap.size ≤ q775 := by have := hS0.1; omega
                      have g784 : ∀ x, x < s.heap.size → G776 x = G x := fun x h9 => (l780 x (Nat.lt_of_lt_of_le h9 hS0.1)).trans (g753 x h9)
                      have va := va_at.kept va (oq _ (hw_lt va))
                      have v17 := va_at.kept v17 (oq _ (hw_lt v17))
                      have v39 := va_at.kept v39 (oq _ (hw_lt v39))
                      have v65 := va_at.kept v65 (oq _ (hw_lt v65))
                      have v80 := va_at.kept v80 (oq _ (hw_lt v80))
                      have v98 := va_at.kept v98 (oq _ (hw_lt v98))
                      have v118 := va_at.kept v118 (oq _ (hw_lt v118))
                      have v232 := va_at.kept v232 (oq _ (hw_lt v232))
                      have k785 := hw_kg2 m778 k760 (by decide)
                      have k786 := hw_kg2 m778 k755 (by decide)
                      have k787 := hw_kg m777 k756 (by decide) (by decide)
                      have k788 := hw_kg m777 k757 (by decide) (by decide)
                      have k789 := hw_kg m777 k758 (by decide) (by decide)
                      have k790 := hw_kg2 m778 k759 (by decide)
                      have k791 := hw_kg2 m778 k754 (by decide)
                      have k792 := hw_kg m777 k761 (by decide) (by decide)
                      have k793 := hw_kg m777 k762 (by decide) (by decide)
                      have k794 := hw_kg m777 k763 (by decide) (by decide)
                      have k795 := hw_kg2 m778 k764 (by decide)
                      have R796 := hw_RC_mono m777 R765
                      have R797 := hw_RT_mono m777 R766
                      have R798 := hw_RS_mono m777 R767
                      have q799 := hw_qq m777 q768 (by decide) (by decide)
                      have q800 := hw_qq m777 q774 (by decide) (by decide)
                      have q801 := hw_qq m777 q770 (by decide) (by decide)
                      have q802 := hw_qq m777 q771 (by decide) (by decide)
                      refine lv_dup hx hb dX11_init_152 rfl ?_
                      have hHo := hH
                      have hS0 := hS
                      refine hw_cM (va_runIN (As := []) (rest := [.ref q775, .int 0, .ref q111]) ⟨hx, hb, hml, hown, hts⟩ (k_X10_init l D G776 q775 _ k779) ⟨va_cnB 0 hts gX11_init_X10_init_n18 rfl rfl rfl (hw_en18 hST.ex) (hts (.initialized RX10) (by decide +kernel)) (by decide +kernel) ⟨Nat.le_of_ble_eq_true rfl, Nat.le_of_ble_eq_true rfl⟩, rfl, hts (.instanceMethod yX10_init) (by decide +kernel)⟩ (hw_pS hH hK hST hS (by decide) (hw_hG g784) v782) rfl rfl hl.1 rfl (lv_room (Nat.le_of_ble_eq_true rfl)) dX11_init_153 ⟨Nat.le_of_ble_eq_true rfl, Nat.le_of_ble_eq_true rfl⟩) hS (hw_AWsub (by decide) g784 hS.1) (fun v H locs hp hz hk hS => ?_)
                      obtain ⟨G803, r806, rfl, hH, i804, k805, R807, v808⟩ := hp
                      have va := va_at.kept va (hk _ (hw_lt va) (hw_AWn k786 (by decide) (hw_lt va)))
                      have v17 := va_at.kept v17 (hk _ (hw_lt v17) (hw_AWn k787 (by decide) (hw_lt v17)))
                      have v39 := va_at.kept v39 (hk _ (hw_lt v39) (hw_AWn k788 (by decide) (hw_lt v39)))
                      have v65 := va_at.kept v65 (hk _ (hw_lt v65) (hw_AWn k789 (by decide) (hw_lt v65)))
                      have v80 := va_at.kept v80 (hk _ (hw_lt v80) (hw_AWn k790 (by decide) (hw_lt v80)))
                      have v98 := va_at.kept v98 (hk _ (hw_lt v98) (hw_AWn k791 (by decide) (hw_lt v98)))
                      have v118 := va_at.kept v118 (hk _ (hw_lt v118) (hw_AWn k785 (by decide) (hw_lt v118)))
                      have v232 := va_at.kept v232 (hk _ (hw_lt v232) (hw_AWn k795 (by decide) (hw_lt v232)))
                      have m809 : ∀ a, G776 a ≠ 0 → G776 a < 100 → G803 a = G776 a := fun a h0 h1 => i804 a (hHo.lt h0) (fun e => by rw [e, k779] at h1; exact absurd h1 (by decide))
                      have g810 : ∀ x, x < s.heap.size → G803 x = G x := fun x h9 => (i804 x (Nat.lt_of_lt_of_le h9 hS0.1) (fun e => by have := w783; omega)).trans (g784 x h9)
                      have k811 := hw_kg3 i804 hHo k779 k785 (by decide) (by decide)
                      have k812 := hw_kg3 i804 hHo k779 k786 (by decide) (by decide)
                      have k813 := hw_kg m809 k787 (by decide) (by decide)
                      have k814 := hw_kg m809 k788 (by decide) (by decide)
                      have k815 := hw_kg m809 k789 (by decide) (by decide)
                      have k816 := hw_kg3 i804 hHo k779 k790 (by decide) (by decide)
                      have k817 := hw_kg3 i804 hHo k779 k791 (by decide) (by decide)
                      have k818 := hw_kg m809 k792 (by decide) (by decide)
                      have k819 := hw_kg m809 k793 (by decide) (by decide)
                      have k820 := hw_kg m809 k794 (by decide) (by decide)
                      have k821 := hw_kg3 i804 hHo k779 k795 (by decide) (by decide)
                      have R822 := hw_RC_mono m809 R796
                      have R823 := hw_RT_mono m809 R797
                      have R824 := hw_RS_mono m809 R798
                      have q825 := hw_qq m809 q799 (by decide) (by decide)
                      have q826 := hw_qq m809 q800 (by decide) (by decide)
                      have q827 := hw_qq m809 q801 (by decide) (by decide)
                      have q828 := hw_qq m809 q802 (by decide) (by decide)
                      refine hw_aast (t := 6) (ci := 9) (q := (RX10, TX10, 10)) hx hb hK hH v118 rfl v808 rfl (fun comp c0 h1 h2 => by cases h1.symm.trans h2; exact va_asg _ _) (hw_in (x := 0) (by decide) (by decide)) (fun _ => by rw [k811]; exact ⟨_, rfl, hw_upq q827 k805⟩) hS (Or.inr w119) dX11_init_156 (fun H locs hH v118 oq hz hS => ?_)
                      have va := va_at.kept va (oq _ (hw_ne k812 k811 (by decide)))
                      have v17 := va_at.kept v17 (oq _ (hw_ne k813 k811 (by decide)))
                      have v39 := va_at.kept v39 (oq _ (hw_ne k814 k811 (by decide)))
                      have v65 := va_at.kept v65 (oq _ (hw_ne k815 k811 (by decide)))
                      have v80 := va_at.kept v80 (oq _ (hw_ne k816 k811 (by decide)))
                      have v98 := va_at.kept v98 (oq _ (hw_ne k817 k811 (by decide)))
                      have v232 := va_at.kept v232 (oq _ (hw_ne k821 k811 (by decide)))
                      have v808 := va_at.kept v808 (oq _ (hw_ne k805 k811 (by decide)))
                      have q831 : ∀ j b, j < 2 → (va_up (fun _ => none) (0 : Int32).toNatClampNeg (some q775)) j = some b → G803 b = 8 := hw_upq q827 k805
                      refine lv_iinc (v := 1) (lv' := [(1, .int 1), (0, .ref h0)]) hx hb dX11_init_157 hl (k := 0) rfl (by rfl) (by decide) rfl (fun ls hl => ?_)
                      refine lv_goto (tgt := 126) hx hb dX11_init_160 (by decide) ?_
                      refine lv_iload_n hx hb dX11_init_126 rfl (lv_at hl 0 rfl) ?_
                      refine lv_iconst (v := 2) hx hb dX11_init_127 (by decide) ?_
                      refine lv_icmp_ge (tgt := 163) hx hb dX11_init_128 (by decide) (fun c832 => ?_) (fun c832 => ?_)
                      · exact absurd c832 (by decide)
                      · refine lv_aload_n hx hb dX11_init_131 rfl (lv_at hl 1 rfl) ?_
                        refine hw_get hx hb fg_34_10 hK va rfl dX11_init_132 ?_
                        refine lv_iload_n hx hb dX11_init_135 rfl (lv_at hl 0 rfl) ?_
                        have hS0 := hS
                        refine hw_new hx hb 107 (ci := 8) (C := RX9) (T := TX9) (N := 7) hts (by decide +kernel) tyX9 tyX9_ok hown (hts (.classLink RX11 23 RX9) (by decide +kernel)) (hts (.instantiable RX9 7) (by decide +kernel)) (hts (.initialized RX9) (by decide +kernel)) hK hH hS rfl [.int 0, .int 0, .int 0, .null, .null, .null, .null] (fun j hj => by rcases (show j = 0 ∨ j = 1 ∨ j = 2 ∨ j = 3 ∨ j = 4 ∨ j = 5 ∨ j = 6 by omega) with rfl | rfl | rfl | rfl | rfl | rfl | rfl <;> rfl) (show hw_ok D.2.1 G803 107 _ from ⟨_, rfl⟩) (Nat.le_of_ble_eq_true rfl) (Nat.le_of_ble_eq_true rfl) dX11_init_136 (fun q833 G834 H hH m835 m836 k837 l838 e839 v840 oq hz hS => ?_)
                        have w841 : s.heap.size ≤ q833 := by have := hS0.1; omega
                        have g842 : ∀ x, x < s.heap.size → G834 x = G x := fun x h9 => (l838 x (Nat.lt_of_lt_of_le h9 hS0.1)).trans (g810 x h9)
                        have va := va_at.kept va (oq _ (hw_lt va))
                        have v17 := va_at.kept v17 (oq _ (hw_lt v17))
                        have v39 := va_at.kept v39 (oq _ (hw_lt v39))
                        have v65 := va_at.kept v65 (oq _ (hw_lt v65))
                        have v80 := va_at.kept v80 (oq _ (hw_lt v80))
                        have v98 := va_at.kept v98 (oq _ (hw_lt v98))
                        have v118 := va_at.kept v118 (oq _ (hw_lt v118))
                        have v232 := va_at.kept v232 (oq _ (hw_lt v232))
                        have k843 := hw_kg2 m836 k817 (by decide)
                        have k844 := hw_kg2 m836 k812 (by decide)
                        have k845 := hw_kg m835 k813 (by decide) (by decide)
                        have k846 := hw_kg m835 k814 (by decide) (by decide)
                        have k847 := hw_kg m835 k815 (by decide) (by decide)
                        have k848 := hw_kg2 m836 k816 (by decide)
                        have k849 := hw_kg2 m836 k811 (by decide)
                        have k850 := hw_kg m835 k818 (by decide) (by decide)
                        have k851 := hw_kg m835 k819 (by decide) (by decide)
                        have k852 := hw_kg m835 k820 (by decide) (by decide)
                        have k853 := hw_kg2 m836 k821 (by decide)
                        have R854 := hw_RC_mono m835 R822
                        have R855 := hw_RT_mono m835 R823
                        have R856 := hw_RS_mono m835 R824
                        have q857 := hw_qq m835 q825 (by decide) (by decide)
                        have q858 := hw_qq m835 q826 (by decide) (by decide)
                        have q859 := hw_qq m835 q831 (by decide) (by decide)
                        have q860 := hw_qq m835 q828 (by decide) (by decide)
                        refine lv_dup hx hb dX11_init_139 rfl ?_
                        have hHo := hH
                        have hS0 := hS
                        refine hw_cM (va_runIN (As := []) (rest := [.ref q833, .int 1, .ref q91]) ⟨hx, hb, hml, hown, hts⟩ (k_X9_init l D G834 q833 _ k837) ⟨va_cnB 0 hts gX11_init_X9_init_n25 rfl rfl rfl (hw_en25 hST.ex) (hts (.initialized RX9) (by decide +kernel)) (by decide +kernel) ⟨Nat.le_of_ble_eq_true rfl, Nat.le_of_ble_eq_true rfl⟩, rfl, hts (.instanceMethod yX9_init) (by decide +kernel)⟩ (hw_pS hH hK hST hS (by decide) (hw_hG g842) v840) rfl rfl hl.1 rfl (lv_room (Nat.le_of_ble_eq_true rfl)) dX11_init_140 ⟨Nat.le_of_ble_eq_true rfl, Nat.le_of_ble_eq_true rfl⟩) hS (hw_AWsub (by decide) g842 hS.1) (fun v H locs hp hz hk hS => ?_)
                        obtain ⟨G861, r864, rfl, hH, i862, k863, R865, v866⟩ := hp
                        have va := va_at.kept va (hk _ (hw_lt va) (hw_AWn k844 (by decide) (hw_lt va)))
                        have v17 := va_at.kept v17 (hk _ (hw_lt v17) (hw_AWn k845 (by decide) (hw_lt v17)))
                        have v39 := va_at.kept v39 (hk _ (hw_lt v39) (hw_AWn k846 (by decide) (hw_lt v39)))
                        have v65 := va_at.kept v65 (hk _ (hw_lt v65) (hw_AWn k847 (by decide) (hw_lt v65)))
                        have v80 := va_at.kept v80 (hk _ (hw_lt v80) (hw_AWn k848 (by decide) (hw_lt v80)))
                        have v98 := va_at.kept v98 (hk _ (hw_lt v98) (hw_AWn k843 (by decide) (hw_lt v98)))
                        have v118 := va_at.kept v118 (hk _ (hw_lt v118) (hw_AWn k849 (by decide) (hw_lt v118)))
                        have v232 := va_at.kept v232 (hk _ (hw_lt v232) (hw_AWn k853 (by decide) (hw_lt v232)))
                        have m867 : ∀ a, G834 a ≠ 0 → G834 a < 100 → G861 a = G834 a := fun a h0 h1 => i862 a (hHo.lt h0) (fun e => by rw [e, k837] at h1; exact absurd h1 (by decide))
                        have g868 : ∀ x, x < s.heap.size → G861 x = G x := fun x h9 => (i862 x (Nat.lt_of_lt_of_le h9 hS0.1) (fun e => by have := w841; omega)).trans (g842 x h9)
                        have k869 := hw_kg3 i862 hHo k837 k843 (by decide) (by decide)
                        have k870 := hw_kg3 i862 hHo k837 k844 (by decide) (by decide)
                        have k871 := hw_kg m867 k845 (by decide) (by decide)
                        have k872 := hw_kg m867 k846 (by decide) (by decide)
                        have k873 := hw_kg m867 k847 (by decide) (by decide)
                        have k874 := hw_kg3 i862 hHo k837 k848 (by decide) (by decide)
                        have k875 := hw_kg3 i862 hHo k837 k849 (by decide) (by decide)
                        have k876 := hw_kg m867 k850 (by decide) (by decide)
                        have k877 := hw_kg m867 k851 (by decide) (by decide)
                        have k878 := hw_kg m867 k852 (by decide) (by decide)
                        have k879 := hw_kg3 i862 hHo k837 k853 (by decide) (by decide)
                        have R880 := hw_RC_mono m867 R854
                        have R881 := hw_RT_mono m867 R855
                        have R882 := hw_RS_mono m867 R856
                        have q883 := hw_qq m867 q857 (by decide) (by decide)
                        have q884 := hw_qq m867 q858 (by decide) (by decide)
                        have q885 := hw_qq m867 q859 (by decide) (by decide)
                        have q886 := hw_qq m867 q860 (by decide) (by decide)
                        refine hw_aast (t := 5) (ci := 8) (q := (RX9, TX9, 7)) hx hb hK hH v98 rfl v866 rfl (fun comp c0 h1 h2 => by cases h1.symm.trans h2; exact va_asg _ _) (hw_in (x := 1) (by decide) (by decide)) (fun _ => by rw [k869]; exact ⟨_, rfl, hw_upq q884 k863⟩) hS (Or.inr w99) dX11_init_143 (fun H locs hH v98 oq hz hS => ?_)
                        have va := va_at.kept va (oq _ (hw_ne k870 k869 (by decide)))
                        have v17 := va_at.kept v17 (oq _ (hw_ne k871 k869 (by decide)))
                        have v39 := va_at.kept v39 (oq _ (hw_ne k872 k869 (by decide)))
                        have v65 := va_at.kept v65 (oq _ (hw_ne k873 k869 (by decide)))
                        have v80 := va_at.kept v80 (oq _ (hw_ne k874 k869 (by decide)))
                        have v118 := va_at.kept v118 (oq _ (hw_ne k875 k869 (by decide)))
                        have v232 := va_at.kept v232 (oq _ (hw_ne k879 k869 (by decide)))
                        have v866 := va_at.kept v866 (oq _ (hw_ne k863 k869 (by decide)))
                        have q889 : ∀ j b, j < 2 → (va_up (va_up (fun _ => none) (0 : Int32).toNatClampNeg (some q718)) (1 : Int32).toNatClampNeg (some q833)) j = some b → G861 b = 7 := hw_upq q884 k863
                        refine lv_aload_n hx hb dX11_init_144 rfl (lv_at hl 1 rfl) ?_
                        refine hw_get hx hb fg_37_10 hK va rfl dX11_init_145 ?_
                        refine lv_iload_n hx hb dX11_init_148 rfl (lv_at hl 0 rfl) ?_
                        have hS0 := hS
                        refine hw_new hx hb 108 (ci := 9) (C := RX10) (T := TX10) (N := 10) hts (by decide +kernel) tyX10 tyX10_ok hown (hts (.classLink RX11 16 RX10) (by decide +kernel)) (hts (.instantiable RX10 10) (by decide +kernel)) (hts (.initialized RX10) (by decide +kernel)) hK hH hS rfl [.null, .int 0, .int 0, .null, .null, .int 0, .int 0, .int 0, .int 0, .int 0] (fun j hj => by rcases (show j = 0 ∨ j = 1 ∨ j = 2 ∨ j = 3 ∨ j = 4 ∨ j = 5 ∨ j = 6 ∨ j = 7 ∨ j = 8 ∨ j = 9 by omega) with rfl | rfl | rfl | rfl | rfl | rfl | rfl | rfl | rfl | rfl <;> rfl) (show hw_ok D.2.1 G861 108 _ from ⟨_, rfl⟩) (Nat.le_of_ble_eq_true rfl) (Nat.le_of_ble_eq_true rfl) dX11_init_149 (fun q890 G891 H hH m892 m893 k894 l895 e896 v897 oq hz hS => ?_)
                        have w898 : s.heap.size ≤ q890 := by have := hS0.1; omega
                        have g899 : ∀ x, x < s.heap.size → G891 x = G x := fun x h9 => (l895 x (Nat.lt_of_lt_of_le h9 hS0.1)).trans (g868 x h9)
                        have va := va_at.kept va (oq _ (hw_lt va))
                        have v17 := va_at.kept v17 (oq _ (hw_lt v17))
                        have v39 := va_at.kept v39 (oq _ (hw_lt v39))
                        have v65 := va_at.kept v65 (oq _ (hw_lt v65))
                        have v80 := va_at.kept v80 (oq _ (hw_lt v80))
                        have v98 := va_at.kept v98 (oq _ (hw_lt v98))
                        have v118 := va_at.kept v118 (oq _ (hw_lt v118))
                        have v232 := va_at.kept v232 (oq _ (hw_lt v232))
                        have k900 := hw_kg2 m893 k875 (by decide)
                        have k901 := hw_kg2 m893 k870 (by decide)
                        have k902 := hw_kg m892 k871 (by decide) (by decide)
                        have k903 := hw_kg m892 k872 (by decide) (by decide)
                        have k904 := hw_kg m892 k873 (by decide) (by decide)
                        have k905 := hw_kg2 m893 k874 (by decide)
                        have k906 := hw_kg2 m893 k869 (by decide)
                        have k907 := hw_kg m892 k876 (by decide) (by decide)
                        have k908 := hw_kg m892 k877 (by decide) (by decide)
                        have k909 := hw_kg m892 k878 (by decide) (by decide)
                        have k910 := hw_kg2 m893 k879 (by decide)
                        have R911 := hw_RC_mono m892 R880
                        have R912 := hw_RT_mono m892 R881
                        have R913 := hw_RS_mono m892 R882
                        have q914 := hw_qq m892 q883 (by decide) (by decide)
                        have q915 := hw_qq m892 q889 (by decide) (by decide)
                        have q916 := hw_qq m892 q885 (by decide) (by decide)
                        have q917 := hw_qq m892 q886 (by decide) (by decide)
                        refine lv_dup hx hb dX11_init_152 rfl ?_
                        have hHo := hH
                        have hS0 := hS
                        refine hw_cM (va_runIN (As := []) (rest := [.ref q890, .int 1, .ref q111]) ⟨hx, hb, hml, hown, hts⟩ (k_X10_init l D G891 q890 _ k894) ⟨va_cnB 0 hts gX11_init_X10_init_n18 rfl rfl rfl (hw_en18 hST.ex) (hts (.initialized RX10) (by decide +kernel)) (by decide +kernel) ⟨Nat.le_of_ble_eq_true rfl, Nat.le_of_ble_eq_true rfl⟩, rfl, hts (.instanceMethod yX10_init) (by decide +kernel)⟩ (hw_pS hH hK hST hS (by decide) (hw_hG g899) v897) rfl rfl hl.1 rfl (lv_room (Nat.le_of_ble_eq_true rfl)) dX11_init_153 ⟨Nat.le_of_ble_eq_true rfl, Nat.le_of_ble_eq_true rfl⟩) hS (hw_AWsub (by decide) g899 hS.1) (fun v H locs hp hz hk hS => ?_)
                        obtain ⟨G918, r921, rfl, hH, i919, k920, R922, v923⟩ := hp
                        have va := va_at.kept va (hk _ (hw_lt va) (hw_AWn k901 (by decide) (hw_lt va)))
                        have v17 := va_at.kept v17 (hk _ (hw_lt v17) (hw_AWn k902 (by decide) (hw_lt v17)))
                        have v39 := va_at.kept v39 (hk _ (hw_lt v39) (hw_AWn k903 (by decide) (hw_lt v39)))
                        have v65 := va_at.kept v65 (hk _ (hw_lt v65) (hw_AWn k904 (by decide) (hw_lt v65)))
                        have v80 := va_at.kept v80 (hk _ (hw_lt v80) (hw_AWn k905 (by decide) (hw_lt v80)))
                        have v98 := va_at.kept v98 (hk _ (hw_lt v98) (hw_AWn k906 (by decide) (hw_lt v98)))
                        have v118 := va_at.kept v118 (hk _ (hw_lt v118) (hw_AWn k900 (by decide) (hw_lt v118)))
                        have v232 := va_at.kept v232 (hk _ (hw_lt v232) (hw_AWn k910 (by decide) (hw_lt v232)))
                        have m924 : ∀ a, G891 a ≠ 0 → G891 a < 100 → G918 a = G891 a := fun a h0 h1 => i919 a (hHo.lt h0) (fun e => by rw [e, k894] at h1; exact absurd h1 (by decide))
                        have g925 : ∀ x, x < s.heap.size → G918 x = G x := fun x h9 => (i919 x (Nat.lt_of_lt_of_le h9 hS0.1) (fun e => by have := w898; omega)).trans (g899 x h9)
                        have k926 := hw_kg3 i919 hHo k894 k900 (by decide) (by decide)
                        have k927 := hw_kg3 i919 hHo k894 k901 (by decide) (by decide)
                        have k928 := hw_kg m924 k902 (by decide) (by decide)
                        have k929 := hw_kg m924 k903 (by decide) (by decide)
                        have k930 := hw_kg m924 k904 (by decide) (by decide)
                        have k931 := hw_kg3 i919 hHo k894 k905 (by decide) (by decide)
                        have k932 := hw_kg3 i919 hHo k894 k906 (by decide) (by decide)
                        have k933 := hw_kg m924 k907 (by decide) (by decide)
                        have k934 := hw_kg m924 k908 (by decide) (by decide)
                        have k935 := hw_kg m924 k909 (by decide) (by decide)
                        have k936 := hw_kg3 i919 hHo k894 k910 (by decide) (by decide)
                        have R937 := hw_RC_mono m924 R911
                        have R938 := hw_RT_mono m924 R912
                        have R939 := hw_RS_mono m924 R913
                        have q940 := hw_qq m924 q914 (by decide) (by decide)
                        have q941 := hw_qq m924 q915 (by decide) (by decide)
                        have q942 := hw_qq m924 q916 (by decide) (by decide)
                        have q943 := hw_qq m924 q917 (by decide) (by decide)
                        refine hw_aast (t := 6) (ci := 9) (q := (RX10, TX10, 10)) hx hb hK hH v118 rfl v923 rfl (fun comp c0 h1 h2 => by cases h1.symm.trans h2; exact va_asg _ _) (hw_in (x := 1) (by decide) (by decide)) (fun _ => by rw [k926]; exact ⟨_, rfl, hw_upq q942 k920⟩) hS (Or.inr w119) dX11_init_156 (fun H locs hH v118 oq hz hS => ?_)
                        have va := va_at.kept va (oq _ (hw_ne k927 k926 (by decide)))
                        have v17 := va_at.kept v17 (oq _ (hw_ne k928 k926 (by decide)))
                        have v39 := va_at.kept v39 (oq _ (hw_ne k929 k926 (by decide)))
                        have v65 := va_at.kept v65 (oq _ (hw_ne k930 k926 (by decide)))
                        have v80 := va_at.kept v80 (oq _ (hw_ne k931 k926 (by decide)))
                        have v98 := va_at.kept v98 (oq _ (hw_ne k932 k926 (by decide)))
                        have v232 := va_at.kept v232 (oq _ (hw_ne k936 k926 (by decide)))
                        have v923 := va_at.kept v923 (oq _ (hw_ne k920 k926 (by decide)))
                        have q946 : ∀ j b, j < 2 → (va_up (va_up (fun _ => none) (0 : Int32).toNatClampNeg (some q775)) (1 : Int32).toNatClampNeg (some q890)) j = some b → G918 b = 8 := hw_upq q942 k920
                        refine lv_iinc (v := 2) (lv' := [(1, .int 2), (0, .ref h0)]) hx hb dX11_init_157 hl (k := 0) rfl (by rfl) (by decide) rfl (fun ls hl => ?_)
                        refine lv_goto (tgt := 126) hx hb dX11_init_160 (by decide) ?_
                        refine lv_iload_n hx hb dX11_init_126 rfl (lv_at hl 0 rfl) ?_
                        refine lv_iconst (v := 2) hx hb dX11_init_127 (by decide) ?_
                        refine lv_icmp_ge (tgt := 163) hx hb dX11_init_128 (by decide) (fun c947 => ?_) (fun c947 => ?_)
                        · refine lv_iconst (v := 0) hx hb dX11_init_163 (by decide) ?_
                          refine lv_istore_n (lv' := [(1, .int 0), (0, .ref h0)]) hx hb dX11_init_164 rfl hl (by decide) rfl (fun ls hl => ?_)
                          refine lv_iload_n hx hb dX11_init_165 rfl (lv_at hl 0 rfl) ?_
                          refine lv_iconst (v := 4) hx hb dX11_init_166 (by decide) ?_
                          refine lv_icmp_ge (tgt := 189) hx hb dX11_init_167 (by decide) (fun c948 => ?_) (fun c948 => ?_)
                          · exact absurd c948 (by decide)
                          · refine lv_aload_n hx hb dX11_init_170 rfl (lv_at hl 1 rfl) ?_
                            refine hw_get hx hb fg_57_10 hK va rfl dX11_init_171 ?_
                            refine lv_iload_n hx hb dX11_init_174 rfl (lv_at hl 0 rfl) ?_
                            have hS0 := hS
                            refine hw_new hx hb 106 (ci := 6) (C := RX7) (T := TX7) (N := 3) hts (by decide +kernel) tyX7 tyX7_ok hown (hts (.classLink RX11 55 RX7) (by decide +kernel)) (hts (.instantiable RX7 3) (by decide +kernel)) (hts (.initialized RX7) (by decide +kernel)) hK hH hS rfl [.null, .int 0, .int 0] (fun j hj => by rcases (show j = 0 ∨ j = 1 ∨ j = 2 by omega) with rfl | rfl | rfl <;> rfl) (show hw_ok D.2.1 G918 106 _ from ⟨_, rfl⟩) (Nat.le_of_ble_eq_true rfl) (Nat.le_of_ble_eq_true rfl) dX11_init_175 (fun q949 G950 H hH m951 m952 k953 l954 e955 v956 oq hz hS => ?_)
                            have w957 : s.heap.size ≤ q949 := by have := hS0.1; omega
                            have g958 : ∀ x, x < s.heap.size → G950 x = G x := fun x h9 => (l954 x (Nat.lt_of_lt_of_le h9 hS0.1)).trans (g925 x h9)
                            have va := va_at.kept va (oq _ (hw_lt va))
                            have v17 := va_at.kept v17 (oq _ (hw_lt v17))
                            have v39 := va_at.kept v39 (oq _ (hw_lt v39))
                            have v65 := va_at.kept v65 (oq _ (hw_lt v65))
                            have v80 := va_at.kept v80 (oq _ (hw_lt v80))
                            have v98 := va_at.kept v98 (oq _ (hw_lt v98))
                            have v118 := va_at.kept v118 (oq _ (hw_lt v118))
                            have v232 := va_at.kept v232 (oq _ (hw_lt v232))
                            have k959 := hw_kg2 m952 k936 (by decide)
                            have k960 := hw_kg2 m952 k927 (by decide)
                            have k961 := hw_kg m951 k928 (by decide) (by decide)
                            have k962 := hw_kg m951 k929 (by decide) (by decide)
                            have k963 := hw_kg m951 k930 (by decide) (by decide)
                            have k964 := hw_kg2 m952 k931 (by decide)
                            have k965 := hw_kg2 m952 k932 (by decide)
                            have k966 := hw_kg2 m952 k926 (by decide)
                            have k967 := hw_kg m951 k933 (by decide) (by decide)
                            have k968 := hw_kg m951 k934 (by decide) (by decide)
                            have k969 := hw_kg m951 k935 (by decide) (by decide)
                            have R970 := hw_RC_mono m951 R937
                            have R971 := hw_RT_mono m951 R938
                            have R972 := hw_RS_mono m951 R939
                            have q973 := hw_qq m951 q940 (by decide) (by decide)
                            have q974 := hw_qq m951 q941 (by decide) (by decide)
                            have q975 := hw_qq m951 q946 (by decide) (by decide)
                            have q976 := hw_qq m951 q943 (by decide) (by decide)
                            refine lv_dup hx hb dX11_init_178 rfl ?_
                            have hq9 := hw_lt v956
                            have hHo := hH
                            have hS0 := hS
                            refine hw_cM (va_runIN (As := []) (rest := [.ref q949, .int 0, .ref q225]) ⟨hx, hb, hml, hown, hts⟩ (k3_X7_init l D G950 q949 _ k953) ⟨va_cnB 0 hts gX11_init_X7_init_n61 rfl rfl rfl (hw_en61 hST.ex) (hts (.initialized RX7) (by decide +kernel)) (by decide +kernel) ⟨Nat.le_of_ble_eq_true rfl, Nat.le_of_ble_eq_true rfl⟩, rfl, hts (.instanceMethod yX7_init) (by decide +kernel)⟩ (hw_pS hH hK hST hS (by decide) (hw_hG g958) v956) rfl rfl hl.1 rfl (lv_room (Nat.le_of_ble_eq_true rfl)) dX11_init_179 ⟨Nat.le_of_ble_eq_true rfl, Nat.le_of_ble_eq_true rfl⟩) hS (hw_AWsub (by decide) g958 hS.1) (fun v H locs hp hz hk hS => ?_)
                            obtain ⟨G977, r980, rfl, hH, i978, k979, R981, v982, x983, x984⟩ := hp
                            have va := va_at.kept va (hk _ (hw_lt va) (hw_AWn k960 (by decide) (hw_lt va)))
                            have v17 := va_at.kept v17 (hk _ (hw_lt v17) (hw_AWn k961 (by decide) (hw_lt v17)))
                            have v39 := va_at.kept v39 (hk _ (hw_lt v39) (hw_AWn k962 (by decide) (hw_lt v39)))
                            have v65 := va_at.kept v65 (hk _ (hw_lt v65) (hw_AWn k963 (by decide) (hw_lt v65)))
                            have v80 := va_at.kept v80 (hk _ (hw_lt v80) (hw_AWn k964 (by decide) (hw_lt v80)))
                            have v98 := va_at.kept v98 (hk _ (hw_lt v98) (hw_AWn k965 (by decide) (hw_lt v98)))
                            have v118 := va_at.kept v118 (hk _ (hw_lt v118) (hw_AWn k966 (by decide) (hw_lt v118)))
                            have v232 := va_at.kept v232 (hk _ (hw_lt v232) (hw_AWn k959 (by decide) (hw_lt v232)))
                            have m985 : ∀ a, G950 a ≠ 0 → G950 a < 100 → G977 a = G950 a := fun a h0 h1 => i978 a (hHo.lt h0) (fun e => by rw [e, k953] at h1; exact absurd h1 (by decide))
                            have g986 : ∀ x, x < s.heap.size → G977 x = G x := fun x h9 => (i978 x (Nat.lt_of_lt_of_le h9 hS0.1) (fun e => by have := w957; omega)).trans (g958 x h9)
                            have k987 := hw_kg3 i978 hHo k953 k959 (by decide) (by decide)
                            have k988 := hw_kg3 i978 hHo k953 k960 (by decide) (by decide)
                            have k989 := hw_kg m985 k961 (by decide) (by decide)
                            have k990 := hw_kg m985 k962 (by decide) (by decide)
                            have k991 := hw_kg m985 k963 (by decide) (by decide)
                            have k992 := hw_kg3 i978 hHo k953 k964 (by decide) (by decide)
                            have k993 := hw_kg3 i978 hHo k953 k965 (by decide) (by decide)
                            have k994 := hw_kg3 i978 hHo k953 k966 (by decide) (by decide)
                            have k995 := hw_kg m985 k967 (by decide) (by decide)
                            have k996 := hw_kg m985 k968 (by decide) (by decide)
                            have k997 := hw_kg m985 k969 (by decide) (by decide)
                            have R998 := hw_RC_mono m985 R970
                            have R999 := hw_RT_mono m985 R971
                            have R1000 := hw_RS_mono m985 R972
                            have q1001 := hw_qq m985 q973 (by decide) (by decide)
                            have q1002 := hw_qq m985 q974 (by decide) (by decide)
                            have q1003 := hw_qq m985 q975 (by decide) (by decide)
                            have q1004 := hw_qq m985 q976 (by decide) (by decide)
                            refine hw_aast (t := 7) (ci := 6) (q := (RX7, TX7, 3)) hx hb hK hH v232 rfl v982 rfl (fun comp c0 h1 h2 => by cases h1.symm.trans h2; exact va_asg _ _) (hw_in (x := 0) (by decide) (by decide)) (fun _ => by rw [k987]; exact ⟨_, rfl, hw_upq q1004 k979⟩) hS (Or.inr w233) dX11_init_182 (fun H locs hH v232 oq hz hS => ?_)
                            have va := va_at.kept va (oq _ (hw_ne k988 k987 (by decide)))
                            have v17 := va_at.kept v17 (oq _ (hw_ne k989 k987 (by decide)))
                            have v39 := va_at.kept v39 (oq _ (hw_ne k990 k987 (by decide)))
                            have v65 := va_at.kept v65 (oq _ (hw_ne k991 k987 (by decide)))
                            have v80 := va_at.kept v80 (oq _ (hw_ne k992 k987 (by decide)))
                            have v98 := va_at.kept v98 (oq _ (hw_ne k993 k987 (by decide)))
                            have v118 := va_at.kept v118 (oq _ (hw_ne k994 k987 (by decide)))
                            have v982 := va_at.kept v982 (oq _ (hw_ne k979 k987 (by decide)))
                            have x984 := va_at.kept x984 (oq _ (hw_ne (hw_RK_0 R981) k987 (by decide)))
                            have q1007 : ∀ j b, j < 4 → (va_up (fun _ => none) (0 : Int32).toNatClampNeg (some q949)) j = some b → G977 b = 6 := hw_upq q1004 k979
                            refine lv_iinc (v := 1) (lv' := [(1, .int 1), (0, .ref h0)]) hx hb dX11_init_183 hl (k := 0) rfl (by rfl) (by decide) rfl (fun ls hl => ?_)
                            refine lv_goto (tgt := 165) hx hb dX11_init_186 (by decide) ?_
                            refine lv_iload_n hx hb dX11_init_165 rfl (lv_at hl 0 rfl) ?_
                            refine lv_iconst (v := 4) hx hb dX11_init_166 (by decide) ?_
                            refine lv_icmp_ge (tgt := 189) hx hb dX11_init_167 (by decide) (fun c1008 => ?_) (fun c1008 => ?_)
                            · exact absurd c1008 (by decide)
                            · refine lv_aload_n hx hb dX11_init_170 rfl (lv_at hl 1 rfl) ?_
                              refine hw_get hx hb fg_57_10 hK va rfl dX11_init_171 ?_
                              refine lv_iload_n hx hb dX11_init_174 rfl (lv_at hl 0 rfl) ?_
                              have hS0 := hS
                              refine hw_new hx hb 106 (ci := 6) (C := RX7) (T := TX7) (N := 3) hts (by decide +kernel) tyX7 tyX7_ok hown (hts (.classLink RX11 55 RX7) (by decide +kernel)) (hts (.instantiable RX7 3) (by decide +kernel)) (hts (.initialized RX7) (by decide +kernel)) hK hH hS rfl [.null, .int 0, .int 0] (fun j hj => by rcases (show j = 0 ∨ j = 1 ∨ j = 2 by omega) with rfl | rfl | rfl <;> rfl) (show hw_ok D.2.1 G977 106 _ from ⟨_, rfl⟩) (Nat.le_of_ble_eq_true rfl) (Nat.le_of_ble_eq_true rfl) dX11_init_175 (fun q1009 G1010 H hH m1011 m1012 k1013 l1014 e1015 v1016 oq hz hS => ?_)
                              have n1019 : q949 ≠ q1009 := by have := hw_lt v982; omega
                              have n1020 : (r980 0) < q1009 := by have := hw_lt x984; omega
                              have w1017 : s.heap.size ≤ q1009 := by have := hS0.1; omega
                              have g1018 : ∀ x, x < s.heap.size → G1010 x = G x := fun x h9 => (l1014 x (Nat.lt_of_lt_of_le h9 hS0.1)).trans (g986 x h9)
                              have va := va_at.kept va (oq _ (hw_lt va))
                              have v17 := va_at.kept v17 (oq _ (hw_lt v17))
                              have v39 := va_at.kept v39 (oq _ (hw_lt v39))
                              have v65 := va_at.kept v65 (oq _ (hw_lt v65))
                              have v80 := va_at.kept v80 (oq _ (hw_lt v80))
                              have v98 := va_at.kept v98 (oq _ (hw_lt v98))
                              have v118 := va_at.kept v118 (oq _ (hw_lt v118))
                              have v232 := va_at.kept v232 (oq _ (hw_lt v232))
                              have v982 := va_at.kept v982 (oq _ (hw_lt v982))
                              have x984 := va_at.kept x984 (oq _ (hw_lt x984))
                              have k1021 := hw_kg2 m1012 k987 (by decide)
                              have k1022 := hw_kg2 m1012 k988 (by decide)
                              have k1023 := hw_kg m1011 k989 (by decide) (by decide)
                              have k1024 := hw_kg m1011 k990 (by decide) (by decide)
                              have k1025 := hw_kg m1011 k991 (by decide) (by decide)
                              have k1026 := hw_kg2 m1012 k992 (by decide)
                              have k1027 := hw_kg2 m1012 k993 (by decide)
                              have k1028 := hw_kg2 m1012 k994 (by decide)
                              have k1029 := hw_kg m1011 k995 (by decide) (by decide)
                              have k1030 := hw_kg m1011 k996 (by decide) (by decide)
                              have k1031 := hw_kg m1011 k997 (by decide) (by decide)
                              have R1032 := hw_RC_mono m1011 R998
                              have R1033 := hw_RT_mono m1011 R999
                              have R1034 := hw_RS_mono m1011 R1000
                              have q1035 := hw_qq m1011 q1001 (by decide) (by decide)
                              have q1036 := hw_qq m1011 q1002 (by decide) (by decide)
                              have q1037 := hw_qq m1011 q1003 (by decide) (by decide)
                              have q1038 := hw_qq m1011 q1007 (by decide) (by decide)
                              have k1039 := hw_kg m1011 k979 (by decide) (by decide)
                              have R1040 := hw_RK_mono m1011 R981
                              have k1041 := hw_kg m1011 (hw_RK_0 R981) (by decide) (by decide)
                              refine lv_dup hx hb dX11_init_178 rfl ?_
                              have hq9 := hw_lt v1016
                              have hHo := hH
                              have hS0 := hS
                              refine hw_cM (va_runIN (As := []) (rest := [.ref q1009, .int 1, .ref q225]) ⟨hx, hb, hml, hown, hts⟩ (k3_X7_init l D G1010 q1009 _ k1013) ⟨va_cnB 0 hts gX11_init_X7_init_n61 rfl rfl rfl (hw_en61 hST.ex) (hts (.initialized RX7) (by decide +kernel)) (by decide +kernel) ⟨Nat.le_of_ble_eq_true rfl, Nat.le_of_ble_eq_true rfl⟩, rfl, hts (.instanceMethod yX7_init) (by decide +kernel)⟩ (hw_pS hH hK hST hS (by decide) (hw_hG g1018) v1016) rfl rfl hl.1 rfl (lv_room (Nat.le_of_ble_eq_true rfl)) dX11_init_179 ⟨Nat.le_of_ble_eq_true rfl, Nat.le_of_ble_eq_true rfl⟩) hS (hw_AWsub (by decide) g1018 hS.1) (fun v H locs hp hz hk hS => ?_)
                              obtain ⟨G1042, r1045, rfl, hH, i1043, k1044, R1046, v1047, x1048, x1049⟩ := hp
                              have va := va_at.kept va (hk _ (hw_lt va) (hw_AWn k1022 (by decide) (hw_lt va)))
                              have v17 := va_at.kept v17 (hk _ (hw_lt v17) (hw_AWn k1023 (by decide) (hw_lt v17)))
                              have v39 := va_at.kept v39 (hk _ (hw_lt v39) (hw_AWn k1024 (by decide) (hw_lt v39)))
                              have v65 := va_at.kept v65 (hk _ (hw_lt v65) (hw_AWn k1025 (by decide) (hw_lt v65)))
                              have v80 := va_at.kept v80 (hk _ (hw_lt v80) (hw_AWn k1026 (by decide) (hw_lt v80)))
                              have v98 := va_at.kept v98 (hk _ (hw_lt v98) (hw_AWn k1027 (by decide) (hw_lt v98)))
                              have v118 := va_at.kept v118 (hk _ (hw_lt v118) (hw_AWn k1028 (by decide) (hw_lt v118)))
                              have v232 := va_at.kept v232 (hk _ (hw_lt v232) (hw_AWn k1021 (by decide) (hw_lt v232)))
                              have v982 := va_at.kept v982 (hk _ (hw_lt v982) (hw_AWn k1039 (by decide) (hw_lt v982)))
                              have x984 := va_at.kept x984 (hk _ (hw_lt x984) (hw_AWn k1041 (by decide) (hw_lt x984)))
                              have m1050 : ∀ a, G1010 a ≠ 0 → G1010 a < 100 → G1042 a = G1010 a := fun a h0 h1 => i1043 a (hHo.lt h0) (fun e => by rw [e, k1013] at h1; exact absurd h1 (by decide))
                              have g1051 : ∀ x, x < s.heap.size → G1042 x = G x := fun x h9 => (i1043 x (Nat.lt_of_lt_of_le h9 hS0.1) (fun e => by have := w1017; omega)).trans (g1018 x h9)
                              have k1052 := hw_kg3 i1043 hHo k1013 k1021 (by decide) (by decide)
                              have k1053 := hw_kg3 i1043 hHo k1013 k1022 (by decide) (by decide)
                              have k1054 := hw_kg m1050 k1023 (by decide) (by decide)
                              have k1055 := hw_kg m1050 k1024 (by decide) (by decide)
                              have k1056 := hw_kg m1050 k1025 (by decide) (by decide)
                              have k1057 := hw_kg3 i1043 hHo k1013 k1026 (by decide) (by decide)
                              have k1058 := hw_kg3 i1043 hHo k1013 k1027 (by decide) (by decide)
                              have k1059 := hw_kg3 i1043 hHo k1013 k1028 (by decide) (by decide)
                              have k1060 := hw_kg m1050 k1029 (by decide) (by decide)
                              have k1061 := hw_kg m1050 k1030 (by decide) (by decide)
                              have k1062 := hw_kg m1050 k1031 (by decide) (by decide)
                              have R1063 := hw_RC_mono m1050 R1032
                              have R1064 := hw_RT_mono m1050 R1033
                              have R1065 := hw_RS_mono m1050 R1034
                              have q1066 := hw_qq m1050 q1035 (by decide) (by decide)
                              have q1067 := hw_qq m1050 q1036 (by decide) (by decide)
                              have q1068 := hw_qq m1050 q1037 (by decide) (by decide)
                              have q1069 := hw_qq m1050 q1038 (by decide) (by decide)
                              have k1070 := hw_kg m1050 k1039 (by decide) (by decide)
                              have R1071 := hw_RK_mono m1050 R1040
                              have k1072 := hw_kg m1050 k1041 (by decide) (by decide)
                              have n1073 : (r980 0) < (r1045 0) := by omega
                              refine hw_aast (t := 7) (ci := 6) (q := (RX7, TX7, 3)) hx hb hK hH v232 rfl v1047 rfl (fun comp c0 h1 h2 => by cases h1.symm.trans h2; exact va_asg _ _) (hw_in (x := 1) (by decide) (by decide)) (fun _ => by rw [k1052]; exact ⟨_, rfl, hw_upq q1069 k1044⟩) hS (Or.inr w233) dX11_init_182 (fun H locs hH v232 oq hz hS => ?_)
                              have va := va_at.kept va (oq _ (hw_ne k1053 k1052 (by decide)))
                              have v17 := va_at.kept v17 (oq _ (hw_ne k1054 k1052 (by decide)))
                              have v39 := va_at.kept v39 (oq _ (hw_ne k1055 k1052 (by decide)))
                              have v65 := va_at.kept v65 (oq _ (hw_ne k1056 k1052 (by decide)))
                              have v80 := va_at.kept v80 (oq _ (hw_ne k1057 k1052 (by decide)))
                              have v98 := va_at.kept v98 (oq _ (hw_ne k1058 k1052 (by decide)))
                              have v118 := va_at.kept v118 (oq _ (hw_ne k1059 k1052 (by decide)))
                              have v982 := va_at.kept v982 (oq _ (hw_ne k1070 k1052 (by decide)))
                              have x984 := va_at.kept x984 (oq _ (hw_ne k1072 k1052 (by decide)))
                              have v1047 := va_at.kept v1047 (oq _ (hw_ne k1044 k1052 (by decide)))
                              have x1049 := va_at.kept x1049 (oq _ (hw_ne (hw_RK_0 R1046) k1052 (by decide)))
                              have q1076 : ∀ j b, j < 4 → (va_up (va_up (fun _ => none) (0 : Int32).toNatClampNeg (some q949)) (1 : Int32).toNatClampNeg (some q1009)) j = some b → G1042 b = 6 := hw_upq q1069 k1044
                              refine lv_iinc (v := 2) (lv' := [(1, .int 2), (0, .ref h0)]) hx hb dX11_init_183 hl (k := 0) rfl (by rfl) (by decide) rfl (fun ls hl => ?_)
                              refine lv_goto (tgt := 165) hx hb dX11_init_186 (by decide) ?_
                              refine lv_iload_n hx hb dX11_init_165 rfl (lv_at hl 0 rfl) ?_
                              refine lv_iconst (v := 4) hx hb dX11_init_166 (by decide) ?_
                              refine lv_icmp_ge (tgt := 189) hx hb dX11_init_167 (by decide) (fun c1077 => ?_) (fun c1077 => ?_)
                              · exact absurd c1077 (by decide)
                              · refine lv_aload_n hx hb dX11_init_170 rfl (lv_at hl 1 rfl) ?_
                                refine hw_get hx hb fg_57_10 hK va rfl dX11_init_171 ?_
                                refine lv_iload_n hx hb dX11_init_174 rfl (lv_at hl 0 rfl) ?_
                                have hS0 := hS
                                refine hw_new hx hb 106 (ci := 6) (C := RX7) (T := TX7) (N := 3) hts (by decide +kernel) tyX7 tyX7_ok hown (hts (.classLink RX11 55 RX7) (by decide +kernel)) (hts (.instantiable RX7 3) (by decide +kernel)) (hts (.initialized RX7) (by decide +kernel)) hK hH hS rfl [.null, .int 0, .int 0] (fun j hj => by rcases (show j = 0 ∨ j = 1 ∨ j = 2 by omega) with rfl | rfl | rfl <;> rfl) (show hw_ok D.2.1 G1042 106 _ from ⟨_, rfl⟩) (Nat.le_of_ble_eq_true rfl) (Nat.le_of_ble_eq_true rfl) dX11_init_175 (fun q1078 G1079 H hH m1080 m1081 k1082 l1083 e1084 v1085 oq hz hS => ?_)
                                have n1088 : q949 ≠ q1078 := by have := hw_lt v982; omega
                                have n1089 : (r980 0) < q1078 := by have := hw_lt x984; omega
                                have n1090 : q1009 ≠ q1078 := by have := hw_lt v1047; omega
                                have n1091 : (r1045 0) < q1078 := by have := hw_lt x1049; omega
                                have w1086 : s.heap.size ≤ q1078 := by have := hS0.1; omega
                                have g1087 : ∀ x, x < s.heap.size → G1079 x = G x := fun x h9 => (l1083 x (Nat.lt_of_lt_of_le h9 hS0.1)).trans (g1051 x h9)
                                have va := va_at.kept va (oq _ (hw_lt va))
                                have v17 := va_at.kept v17 (oq _ (hw_lt v17))
                                have v39 := va_at.kept v39 (oq _ (hw_lt v39))
                                have v65 := va_at.kept v65 (oq _ (hw_lt v65))
                                have v80 := va_at.kept v80 (oq _ (hw_lt v80))
                                have v98 := va_at.kept v98 (oq _ (hw_lt v98))
                                have v118 := va_at.kept v118 (oq _ (hw_lt v118))
                                have v232 := va_at.kept v232 (oq _ (hw_lt v232))
                                have v982 := va_at.kept v982 (oq _ (hw_lt v982))
                                have x984 := va_at.kept x984 (oq _ (hw_lt x984))
                                have v1047 := va_at.kept v1047 (oq _ (hw_lt v1047))
                                have x1049 := va_at.kept x1049 (oq _ (hw_lt x1049))
                                have k1092 := hw_kg2 m1081 k1052 (by decide)
                                have k1093 := hw_kg2 m1081 k1053 (by decide)
                                have k1094 := hw_kg m1080 k1054 (by decide) (by decide)
                                have k1095 := hw_kg m1080 k1055 (by decide) (by decide)
                                have k1096 := hw_kg m1080 k1056 (by decide) (by decide)
                                have k1097 := hw_kg2 m1081 k1057 (by decide)
                                have k1098 := hw_kg2 m1081 k1058 (by decide)
                                have k1099 := hw_kg2 m1081 k1059 (by decide)
                                have k1100 := hw_kg m1080 k1060 (by decide) (by decide)
                                have k1101 := hw_kg m1080 k1061 (by decide) (by decide)
                                have k1102 := hw_kg m1080 k1062 (by decide) (by decide)
                                have R1103 := hw_RC_mono m1080 R1063
                                have R1104 := hw_RT_mono m1080 R1064
                                have R1105 := hw_RS_mono m1080 R1065
                                have q1106 := hw_qq m1080 q1066 (by decide) (by decide)
                                have q1107 := hw_qq m1080 q1067 (by decide) (by decide)
                                have q1108 := hw_qq m1080 q1068 (by decide) (by decide)
                                have q1109 := hw_qq m1080 q1076 (by decide) (by decide)
                                have k1110 := hw_kg m1080 k1070 (by decide) (by decide)
                                have R1111 := hw_RK_mono m1080 R1071
                                have k1112 := hw_kg m1080 k1072 (by decide) (by decide)
                                have k1113 := hw_kg m1080 k1044 (by decide) (by decide)
                                have R1114 := hw_RK_mono m1080 R1046
                                have k1115 := hw_kg m1080 (hw_RK_0 R1046) (by decide) (by decide)
                                refine lv_dup hx hb dX11_init_178 rfl ?_
                                have hq9 := hw_lt v1085
                                have hHo := hH
                                have hS0 := hS
                                refine hw_cM (va_runIN (As := []) (rest := [.ref q1078, .int 2, .ref q225]) ⟨hx, hb, hml, hown, hts⟩ (k3_X7_init l D G1079 q1078 _ k1082) ⟨va_cnB 0 hts gX11_init_X7_init_n61 rfl rfl rfl (hw_en61 hST.ex) (hts (.initialized RX7) (by decide +kernel)) (by decide +kernel) ⟨Nat.le_of_ble_eq_true rfl, Nat.le_of_ble_eq_true rfl⟩, rfl, hts (.instanceMethod yX7_init) (by decide +kernel)⟩ (hw_pS hH hK hST hS (by decide) (hw_hG g1087) v1085) rfl rfl hl.1 rfl (lv_room (Nat.le_of_ble_eq_true rfl)) dX11_init_179 ⟨Nat.le_of_ble_eq_true rfl, Nat.le_of_ble_eq_true rfl⟩) hS (hw_AWsub (by decide) g1087 hS.1) (fun v H locs hp hz hk hS => ?_)
                                obtain ⟨G1116, r1119, rfl, hH, i1117, k1118, R1120, v1121, x1122, x1123⟩ := hp
                                have va := va_at.kept va (hk _ (hw_lt va) (hw_AWn k1093 (by decide) (hw_lt va)))
                                have v17 := va_at.kept v17 (hk _ (hw_lt v17) (hw_AWn k1094 (by decide) (hw_lt v17)))
                                have v39 := va_at.kept v39 (hk _ (hw_lt v39) (hw_AWn k1095 (by decide) (hw_lt v39)))
                                have v65 := va_at.kept v65 (hk _ (hw_lt v65) (hw_AWn k1096 (by decide) (hw_lt v65)))
                                have v80 := va_at.kept v80 (hk _ (hw_lt v80) (hw_AWn k1097 (by decide) (hw_lt v80)))
                                have v98 := va_at.kept v98 (hk _ (hw_lt v98) (hw_AWn k1098 (by decide) (hw_lt v98)))
                                have v118 := va_at.kept v118 (hk _ (hw_lt v118) (hw_AWn k1099 (by decide) (hw_lt v118)))
                                have v232 := va_at.kept v232 (hk _ (hw_lt v232) (hw_AWn k1092 (by decide) (hw_lt v232)))
                                have v982 := va_at.kept v982 (hk _ (hw_lt v982) (hw_AWn k1110 (by decide) (hw_lt v982)))
                                have x984 := va_at.kept x984 (hk _ (hw_lt x984) (hw_AWn k1112 (by decide) (hw_lt x984)))
                                have v1047 := va_at.kept v1047 (hk _ (hw_lt v1047) (hw_AWn k1113 (by decide) (hw_lt v1047)))
                                have x1049 := va_at.kept x1049 (hk _ (hw_lt x1049) (hw_AWn k1115 (by decide) (hw_lt x1049)))
                                have m1124 : ∀ a, G1079 a ≠ 0 → G1079 a < 100 → G1116 a = G1079 a := fun a h0 h1 => i1117 a (hHo.lt h0) (fun e => by rw [e, k1082] at h1; exact absurd h1 (by decide))
                                have g1125 : ∀ x, x < s.heap.size → G1116 x = G x := fun x h9 => (i1117 x (Nat.lt_of_lt_of_le h9 hS0.1) (fun e => by have := w1086; omega)).trans (g1087 x h9)
                                have k1126 := hw_kg3 i1117 hHo k1082 k1092 (by decide) (by decide)
                                have k1127 := hw_kg3 i1117 hHo k1082 k1093 (by decide) (by decide)
                                have k1128 := hw_kg m1124 k1094 (by decide) (by decide)
                                have k1129 := hw_kg m1124 k1095 (by decide) (by decide)
                                have k1130 := hw_kg m1124 k1096 (by decide) (by decide)
                                have k1131 := hw_kg3 i1117 hHo k1082 k1097 (by decide) (by decide)
                                have k1132 := hw_kg3 i1117 hHo k1082 k1098 (by decide) (by decide)
                                have k1133 := hw_kg3 i1117 hHo k1082 k1099 (by decide) (by decide)
                                have k1134 := hw_kg m1124 k1100 (by decide) (by decide)
                                have k1135 := hw_kg m1124 k1101 (by decide) (by decide)
                                have k1136 := hw_kg m1124 k1102 (by decide) (by decide)
                                have R1137 := hw_RC_mono m1124 R1103
                                have R1138 := hw_RT_mono m1124 R1104
                                have R1139 := hw_RS_mono m1124 R1105
                                have q1140 := hw_qq m1124 q1106 (by decide) (by decide)
                                have q1141 := hw_qq m1124 q1107 (by decide) (by decide)
                                have q1142 := hw_qq m1124 q1108 (by decide) (by decide)
                                have q1143 := hw_qq m1124 q1109 (by decide) (by decide)
                                have k1144 := hw_kg m1124 k1110 (by decide) (by decide)
                                have R1145 := hw_RK_mono m1124 R1111
                                have k1146 := hw_kg m1124 k1112 (by decide) (by decide)
                                have k1147 := hw_kg m1124 k1113 (by decide) (by decide)
                                have R1148 := hw_RK_mono m1124 R1114
                                have k1149 := hw_kg m1124 k1115 (by decide) (by decide)
                                have n1150 : (r980 0) < (r1119 0) := by omega
                                have n1151 : (r1045 0) < (r1119 0) := by omega
                                refine hw_aast (t := 7) (ci := 6) (q := (RX7, TX7, 3)) hx hb hK hH v232 rfl v1121 rfl (fun comp c0 h1 h2 => by cases h1.symm.trans h2; exact va_asg _ _) (hw_in (x := 2) (by decide) (by decide)) (fun _ => by rw [k1126]; exact ⟨_, rfl, hw_upq q1143 k1118⟩) hS (Or.inr w233) dX11_init_182 (fun H locs hH v232 oq hz hS => ?_)
                                have va := va_at.kept va (oq _ (hw_ne k1127 k1126 (by decide)))
                                have v17 := va_at.kept v17 (oq _ (hw_ne k1128 k1126 (by decide)))
                                have v39 := va_at.kept v39 (oq _ (hw_ne k1129 k1126 (by decide)))
                                have v65 := va_at.kept v65 (oq _ (hw_ne k1130 k1126 (by decide)))
                                have v80 := va_at.kept v80 (oq _ (hw_ne k1131 k1126 (by decide)))
                                have v98 := va_at.kept v98 (oq _ (hw_ne k1132 k1126 (by decide)))
                                have v118 := va_at.kept v118 (oq _ (hw_ne k1133 k1126 (by decide)))
                                have v982 := va_at.kept v982 (oq _ (hw_ne k1144 k1126 (by decide)))
                                have x984 := va_at.kept x984 (oq _ (hw_ne k1146 k1126 (by decide)))
                                have v1047 := va_at.kept v1047 (oq _ (hw_ne k1147 k1126 (by decide)))
                                have x1049 := va_at.kept x1049 (oq _ (hw_ne k1149 k1126 (by decide)))
                                have v1121 := va_at.kept v1121 (oq _ (hw_ne k1118 k1126 (by decide)))
                                have x1123 := va_at.kept x1123 (oq _ (hw_ne (hw_RK_0 R1120) k1126 (by decide)))
                                have q1154 : ∀ j b, j < 4 → (va_up (va_up (va_up (fun _ => none) (0 : Int32).toNatClampNeg (some q949)) (1 : Int32).toNatClampNeg (some q1009)) (2 : Int32).toNatClampNeg (some q1078)) j = some b → G1116 b = 6 := hw_upq q1143 k1118
                                refine lv_iinc (v := 3) (lv' := [(1, .int 3), (0, .ref h0)]) hx hb dX11_init_183 hl (k := 0) rfl (by rfl) (by decide) rfl (fun ls hl => ?_)
                                refine lv_goto (tgt := 165) hx hb dX11_init_186 (by decide) ?_
                                refine lv_iload_n hx hb dX11_init_165 rfl (lv_at hl 0 rfl) ?_
                                refine lv_iconst (v := 4) hx hb dX11_init_166 (by decide) ?_
                                refine lv_icmp_ge (tgt := 189) hx hb dX11_init_167 (by decide) (fun c1155 => ?_) (fun c1155 => ?_)
                                · exact absurd c1155 (by decide)
                                · refine lv_aload_n hx hb dX11_init_170 rfl (lv_at hl 1 rfl) ?_
                                  refine hw_get hx hb fg_57_10 hK va rfl dX11_init_171 ?_
                                  refine lv_iload_n hx hb dX11_init_174 rfl (lv_at hl 0 rfl) ?_
                                  have hS0 := hS
                                  refine hw_new hx hb 106 (ci := 6) (C := RX7) (T := TX7) (N := 3) hts (by decide +kernel) tyX7 tyX7_ok hown (hts (.classLink RX11 55 RX7) (by decide +kernel)) (hts (.instantiable RX7 3) (by decide +kernel)) (hts (.initialized RX7) (by decide +kernel)) hK hH hS rfl [.null, .int 0, .int 0] (fun j hj => by rcases (show j = 0 ∨ j = 1 ∨ j = 2 by omega) with rfl | rfl | rfl <;> rfl) (show hw_ok D.2.1 G1116 106 _ from ⟨_, rfl⟩) (Nat.le_of_ble_eq_true rfl) (Nat.le_of_ble_eq_true rfl) dX11_init_175 (fun q1156 G1157 H hH m1158 m1159 k1160 l1161 e1162 v1163 oq hz hS => ?_)
                                  have n1166 : q949 ≠ q1156 := by have := hw_lt v982; omega
                                  have n1167 : (r980 0) < q1156 := by have := hw_lt x984; omega
                                  have n1168 : q1009 ≠ q1156 := by have := hw_lt v1047; omega
                                  have n1169 : (r1045 0) < q1156 := by have := hw_lt x1049; omega
                                  have n1170 : q1078 ≠ q1156 := by have := hw_lt v1121; omega
                                  have n1171 : (r1119 0) < q1156 := by have := hw_lt x1123; omega
                                  have w1164 : s.heap.size ≤ q1156 := by have := hS0.1; omega
                                  have g1165 : ∀ x, x < s.heap.size → G1157 x = G x := fun x h9 => (l1161 x (Nat.lt_of_lt_of_le h9 hS0.1)).trans (g1125 x h9)
                                  have va := va_at.kept va (oq _ (hw_lt va))
                                  have v17 := va_at.kept v17 (oq _ (hw_lt v17))
                                  have v39 := va_at.kept v39 (oq _ (hw_lt v39))
                                  have v65 := va_at.kept v65 (oq _ (hw_lt v65))
                                  have v80 := va_at.kept v80 (oq _ (hw_lt v80))
                                  have v98 := va_at.kept v98 (oq _ (hw_lt v98))
                                  have v118 := va_at.kept v118 (oq _ (hw_lt v118))
                                  have v232 := va_at.kept v232 (oq _ (hw_lt v232))
                                  have v982 := va_at.kept v982 (oq _ (hw_lt v982))
                                  have x984 := va_at.kept x984 (oq _ (hw_lt x984))
                                  have v1047 := va_at.kept v1047 (oq _ (hw_lt v1047))
                                  have x1049 := va_at.kept x1049 (oq _ (hw_lt x1049))
                                  have v1121 := va_at.kept v1121 (oq _ (hw_lt v1121))
                                  have x1123 := va_at.kept x1123 (oq _ (hw_lt x1123))
                                  have k1172 := hw_kg2 m1159 k1126 (by decide)
                                  have k1173 := hw_kg2 m1159 k1127 (by decide)
                                  have k1174 := hw_kg m1158 k1128 (by decide) (by decide)
                                  have k1175 := hw_kg m1158 k1129 (by decide) (by decide)
                                  have k1176 := hw_kg m1158 k1130 (by decide) (by decide)
                                  have k1177 := hw_kg2 m1159 k1131 (by decide)
                                  have k1178 := hw_kg2 m1159 k1132 (by decide)
                                  have k1179 := hw_kg2 m1159 k1133 (by decide)
                                  have k1180 := hw_kg m1158 k1134 (by decide) (by decide)
                                  have k1181 := hw_kg m1158 k1135 (by decide) (by decide)
                                  have k1182 := hw_kg m1158 k1136 (by decide) (by decide)
                                  have R1183 := hw_RC_mono m1158 R1137
                                  have R1184 := hw_RT_mono m1158 R1138
                                  have R1185 := hw_RS_mono m1158 R1139
                                  have q1186 := hw_qq m1158 q1140 (by decide) (by decide)
                                  have q1187 := hw_qq m1158 q1141 (by decide) (by decide)
                                  have q1188 := hw_qq m1158 q1142 (by decide) (by decide)
                                  have q1189 := hw_qq m1158 q1154 (by decide) (by decide)
                                  have k1190 := hw_kg m1158 k1144 (by decide) (by decide)
                                  have R1191 := hw_RK_mono m1158 R1145
                                  have k1192 := hw_kg m1158 k1146 (by decide) (by decide)
                                  have k1193 := hw_kg m1158 k1147 (by decide) (by decide)
                                  have R1194 := hw_RK_mono m1158 R1148
                                  have k1195 := hw_kg m1158 k1149 (by decide) (by decide)
                                  have k1196 := hw_kg m1158 k1118 (by decide) (by decide)
                                  have R1197 := hw_RK_mono m1158 R1120
                                  have k1198 := hw_kg m1158 (hw_RK_0 R1120) (by decide) (by decide)
                                  refine lv_dup hx hb dX11_init_178 rfl ?_
                                  have hq9 := hw_lt v1163
                                  have hHo := hH
                                  have hS0 := hS
                                  refine hw_cM (va_runIN (As := []) (rest := [.ref q1156, .int 3, .ref q225]) ⟨hx, hb, hml, hown, hts⟩ (k3_X7_init l D G1157 q1156 _ k1160) ⟨va_cnB 0 hts gX11_init_X7_init_n61 rfl rfl rfl (hw_en61 hST.ex) (hts (.initialized RX7) (by decide +kernel)) (by decide +kernel) ⟨Nat.le_of_ble_eq_true rfl, Nat.le_of_ble_eq_true rfl⟩, rfl, hts (.instanceMethod yX7_init) (by decide +kernel)⟩ (hw_pS hH hK hST hS (by decide) (hw_hG g1165) v1163) rfl rfl hl.1 rfl (lv_room (Nat.le_of_ble_eq_true rfl)) dX11_init_179 ⟨Nat.le_of_ble_eq_true rfl, Nat.le_of_ble_eq_true rfl⟩) hS (hw_AWsub (by decide) g1165 hS.1) (fun v H locs hp hz hk hS => ?_)
                                  obtain ⟨G1199, r1202, rfl, hH, i1200, k1201, R1203, v1204, x1205, x1206⟩ := hp
                                  have va := va_at.kept va (hk _ (hw_lt va) (hw_AWn k1173 (by decide) (hw_lt va)))
                                  have v17 := va_at.kept v17 (hk _ (hw_lt v17) (hw_AWn k1174 (by decide) (hw_lt v17)))
                                  have v39 := va_at.kept v39 (hk _ (hw_lt v39) (hw_AWn k1175 (by decide) (hw_lt v39)))
                                  have v65 := va_at.kept v65 (hk _ (hw_lt v65) (hw_AWn k1176 (by decide) (hw_lt v65)))
                                  have v80 := va_at.kept v80 (hk _ (hw_lt v80) (hw_AWn k1177 (by decide) (hw_lt v80)))
                                  have v98 := va_at.kept v98 (hk _ (hw_lt v98) (hw_AWn k1178 (by decide) (hw_lt v98)))
                                  have v118 := va_at.kept v118 (hk _ (hw_lt v118) (hw_AWn k1179 (by decide) (hw_lt v118)))
                                  have v232 := va_at.kept v232 (hk _ (hw_lt v232) (hw_AWn k1172 (by decide) (hw_lt v232)))
                                  have v982 := va_at.kept v982 (hk _ (hw_lt v982) (hw_AWn k1190 (by decide) (hw_lt v982)))
                                  have x984 := va_at.kept x984 (hk _ (hw_lt x984) (hw_AWn k1192 (by decide) (hw_lt x984)))
                                  have v1047 := va_at.kept v1047 (hk _ (hw_lt v1047) (hw_AWn k1193 (by decide) (hw_lt v1047)))
                                  have x1049 := va_at.kept x1049 (hk _ (hw_lt x1049) (hw_AWn k1195 (by decide) (hw_lt x1049)))
                                  have v1121 := va_at.kept v1121 (hk _ (hw_lt v1121) (hw_AWn k1196 (by decide) (hw_lt v1121)))
                                  have x1123 := va_at.kept x1123 (hk _ (hw_lt x1123) (hw_AWn k1198 (by decide) (hw_lt x1123)))
                                  have m1207 : ∀ a, G1157 a ≠ 0 → G1157 a < 100 → G1199 a = G1157 a := fun a h0 h1 => i1200 a (hHo.lt h0) (fun e => by rw [e, k1160] at h1; exact absurd h1 (by decide))
                                  have g1208 : ∀ x, x < s.heap.size → G1199 x = G x := fun x h9 => (i1200 x (Nat.lt_of_lt_of_le h9 hS0.1) (fun e => by have := w1164; omega)).trans (g1165 x h9)
                                  have k1209 := hw_kg3 i1200 hHo k1160 k1172 (by decide) (by decide)
                                  have k1210 := hw_kg3 i1200 hHo k1160 k1173 (by decide) (by decide)
                                  have k1211 := hw_kg m1207 k1174 (by decide) (by decide)
                                  have k1212 := hw_kg m1207 k1175 (by decide) (by decide)
                                  have k1213 := hw_kg m1207 k1176 (by decide) (by decide)
                                  have k1214 := hw_kg3 i1200 hHo k1160 k1177 (by decide) (by decide)
                                  have k1215 := hw_kg3 i1200 hHo k1160 k1178 (by decide) (by decide)
                                  have k1216 := hw_kg3 i1200 hHo k1160 k1179 (by decide) (by decide)
                                  have k1217 := hw_kg m1207 k1180 (by decide) (by decide)
                                  have k1218 := hw_kg m1207 k1181 (by decide) (by decide)
                                  have k1219 := hw_kg m1207 k1182 (by decide) (by decide)
                                  have R1220 := hw_RC_mono m1207 R1183
                                  have R1221 := hw_RT_mono m1207 R1184
                                  have R1222 := hw_RS_mono m1207 R1185
                                  have q1223 := hw_qq m1207 q1186 (by decide) (by decide)
                                  have q1224 := hw_qq m1207 q1187 (by decide) (by decide)
                                  have q1225 := hw_qq m1207 q1188 (by decide) (by decide)
                                  have q1226 := hw_qq m1207 q1189 (by decide) (by decide)
                                  have k1227 := hw_kg m1207 k1190 (by decide) (by decide)
                                  have R1228 := hw_RK_mono m1207 R1191
                                  have k1229 := hw_kg m1207 k1192 (by decide) (by decide)
                                  have k1230 := hw_kg m1207 k1193 (by decide) (by decide)
                                  have R1231 := hw_RK_mono m1207 R1194
                                  have k1232 := hw_kg m1207 k1195 (by decide) (by decide)
                                  have k1233 := hw_kg m1207 k1196 (by decide) (by decide)
                                  have R1234 := hw_RK_mono m1207 R1197
                                  have k1235 := hw_kg m1207 k1198 (by decide) (by decide)
                                  have n1236 : (r980 0) < (r1202 0) := by omega
                                  have n1237 : (r1045 0) < (r1202 0) := by omega
                                  have n1238 : (r1119 0) < (r1202 0) := by omega
                                  refine hw_aast (t := 7) (ci := 6) (q := (RX7, TX7, 3)) hx hb hK hH v232 rfl v1204 rfl (fun comp c0 h1 h2 => by cases h1.symm.trans h2; exact va_asg _ _) (hw_in (x := 3) (by decide) (by decide)) (fun _ => by rw [k1209]; exact ⟨_, rfl, hw_upq q1226 k1201⟩) hS (Or.inr w233) dX11_init_182 (fun H locs hH v232 oq hz hS => ?_)
                                  have va := va_at.kept va (oq _ (hw_ne k1210 k1209 (by decide)))
                                  have v17 := va_at.kept v17 (oq _ (hw_ne k1211 k1209 (by decide)))
                                  have v39 := va_at.kept v39 (oq _ (hw_ne k1212 k1209 (by decide)))
                                  have v65 := va_at.kept v65 (oq _ (hw_ne k1213 k1209 (by decide)))
                                  have v80 := va_at.kept v80 (oq _ (hw_ne k1214 k1209 (by decide)))
                                  have v98 := va_at.kept v98 (oq _ (hw_ne k1215 k1209 (by decide)))
                                  have v118 := va_at.kept v118 (oq _ (hw_ne k1216 k1209 (by decide)))
                                  have v982 := va_at.kept v982 (oq _ (hw_ne k1227 k1209 (by decide)))
                                  have x984 := va_at.kept x984 (oq _ (hw_ne k1229 k1209 (by decide)))
                                  have v1047 := va_at.kept v1047 (oq _ (hw_ne k1230 k1209 (by decide)))
                                  have x1049 := va_at.kept x1049 (oq _ (hw_ne k1232 k1209 (by decide)))
                                  have v1121 := va_at.kept v1121 (oq _ (hw_ne k1233 k1209 (by decide)))
                                  have x1123 := va_at.kept x1123 (oq _ (hw_ne k1235 k1209 (by decide)))
                                  have v1204 := va_at.kept v1204 (oq _ (hw_ne k1201 k1209 (by decide)))
                                  have x1206 := va_at.kept x1206 (oq _ (hw_ne (hw_RK_0 R1203) k1209 (by decide)))
                                  have q1241 : ∀ j b, j < 4 → (va_up (va_up (va_up (va_up (fun _ => none) (0 : Int32).toNatClampNeg (some q949)) (1 : Int32).toNatClampNeg (some q1009)) (2 : Int32).toNatClampNeg (some q1078)) (3 : Int32).toNatClampNeg (some q1156)) j = some b → G1199 b = 6 := hw_upq q1226 k1201
                                  refine lv_iinc (v := 4) (lv' := [(1, .int 4), (0, .ref h0)]) hx hb dX11_init_183 hl (k := 0) rfl (by rfl) (by decide) rfl (fun ls hl => ?_)
                                  refine lv_goto (tgt := 165) hx hb dX11_init_186 (by decide) ?_
                                  refine lv_iload_n hx hb dX11_init_165 rfl (lv_at hl 0 rfl) ?_
                                  refine lv_iconst (v := 4) hx hb dX11_init_166 (by decide) ?_
                                  refine lv_icmp_ge (tgt := 189) hx hb dX11_init_167 (by decide) (fun c1242 => ?_) (fun c1242 => ?_)
                                  · have hHo := hH
                                    obtain ⟨hH, hm9⟩ := hw_HT.rekind (k := 27) hH (by rw [k1214]; decide) v80 (show hw_AQn D.2.1 5 8 G1199 7 _ from ⟨_, rfl, fun j hj => by rcases (show j = 0 ∨ j = 1 ∨ j = 2 ∨ j = 3 ∨ j = 4 ∨ j = 5 ∨ j = 6 ∨ j = 7 by omega) with rfl | rfl | rfl | rfl | rfl | rfl | rfl | rfl <;> first | exact ⟨q253, rfl, q1223 0 _ (by decide) rfl⟩ | exact ⟨q311, rfl, q1223 1 _ (by decide) rfl⟩ | exact ⟨q369, rfl, q1223 2 _ (by decide) rfl⟩ | exact ⟨q427, rfl, q1223 3 _ (by decide) rfl⟩ | exact ⟨q485, rfl, q1223 4 _ (by decide) rfl⟩ | exact ⟨q543, rfl, q1223 5 _ (by decide) rfl⟩ | exact ⟨q601, rfl, q1223 6 _ (by decide) rfl⟩ | exact ⟨q659, rfl, q1223 7 _ (by decide) rfl⟩⟩)
                                    obtain ⟨G1243, e1244⟩ : ∃ z, z = va_up G1199 q73 27 := ⟨_, rfl⟩
                                    rw [← e1244] at hH hm9
                                    have i1245 : ∀ x, x < H.size → x ≠ q73 → G1243 x = G1199 x := fun x _ h9 => by rw [e1244]; exact va_up_ne _ _ h9
                                    have k1246 : G1243 q73 = 27 := by rw [e1244]; exact va_up_self _ _ _
                                    have g1247 : ∀ x, x < s.heap.size → G1243 x = G x := fun x h9 => by rw [e1244, va_up_ne _ _ (fun e9 => by have := w81; omega)]; exact g1208 x h9
                                    have k1248 := hw_kg3 i1245 hHo k1214 k1210 (by decide) (by decide)
                                    have k1249 := hw_kg hm9 k1211 (by decide) (by decide)
                                    have k1250 := hw_kg hm9 k1212 (by decide) (by decide)
                                    have k1251 := hw_kg hm9 k1213 (by decide) (by decide)
                                    have k1252 := hw_kg3 i1245 hHo k1214 k1215 (by decide) (by decide)
                                    have k1253 := hw_kg3 i1245 hHo k1214 k1216 (by decide) (by decide)
                                    have k1254 := hw_kg hm9 k1217 (by decide) (by decide)
                                    have k1255 := hw_kg hm9 k1218 (by decide) (by decide)
                                    have k1256 := hw_kg hm9 k1219 (by decide) (by decide)
                                    have k1257 := hw_kg3 i1245 hHo k1214 k1209 (by decide) (by decide)
                                    have R1258 := hw_RC_mono hm9 R1220
                                    have R1259 := hw_RT_mono hm9 R1221
                                    have R1260 := hw_RS_mono hm9 R1222
                                    have q1261 := hw_qq hm9 q1224 (by decide) (by decide)
                                    have q1262 := hw_qq hm9 q1225 (by decide) (by decide)
                                    have q1263 := hw_qq hm9 q1241 (by decide) (by decide)
                                    have k1264 := hw_kg hm9 k1227 (by decide) (by decide)
                                    have R1265 := hw_RK_mono hm9 R1228
                                    have k1266 := hw_kg hm9 k1229 (by decide) (by decide)
                                    have k1267 := hw_kg hm9 k1230 (by decide) (by decide)
                                    have R1268 := hw_RK_mono hm9 R1231
                                    have k1269 := hw_kg hm9 k1232 (by decide) (by decide)
                                    have k1270 := hw_kg hm9 k1233 (by decide) (by decide)
                                    have R1271 := hw_RK_mono hm9 R1234
                                    have k1272 := hw_kg hm9 k1235 (by decide) (by decide)
                                    have k1273 := hw_kg hm9 k1201 (by decide) (by decide)
                                    have R1274 := hw_RK_mono hm9 R1203
                                    have k1275 := hw_kg hm9 (hw_RK_0 R1203) (by decide) (by decide)
                                    have hHo := hH
                                    obtain ⟨hH, hm9⟩ := hw_HT.rekind (k := 28) hH (by rw [k1252]; decide) v98 (show hw_AQn D.2.1 5 2 G1243 7 _ from ⟨_, rfl, fun j hj => by rcases (show j = 0 ∨ j = 1 by omega) with rfl | rfl <;> first | exact ⟨q718, rfl, q1261 0 _ (by decide) rfl⟩ | exact ⟨q833, rfl, q1261 1 _ (by decide) rfl⟩⟩)
                                    obtain ⟨G1276, e1277⟩ : ∃ z, z = va_up G1243 q91 28 := ⟨_, rfl⟩
                                    rw [← e1277] at hH hm9
                                    have i1278 : ∀ x, x < H.size → x ≠ q91 → G1276 x = G1243 x := fun x _ h9 => by rw [e1277]; exact va_up_ne _ _ h9
                                    have k1279 : G1276 q91 = 28 := by rw [e1277]; exact va_up_self _ _ _
                                    have g1280 : ∀ x, x < s.heap.size → G1276 x = G x := fun x h9 => by rw [e1277, va_up_ne _ _ (fun e9 => by have := w99; omega)]; exact g1247 x h9
                                    have k1281 := hw_kg3 i1278 hHo k1252 k1248 (by decide) (by decide)
                                    have k1282 := hw_kg hm9 k1249 (by decide) (by decide)
                                    have k1283 := hw_kg hm9 k1250 (by decide) (by decide)
                                    have k1284 := hw_kg hm9 k1251 (by decide) (by decide)
                                    have k1285 := hw_kg3 i1278 hHo k1252 k1253 (by decide) (by decide)
                                    have k1286 := hw_kg hm9 k1254 (by decide) (by decide)
                                    have k1287 := hw_kg hm9 k1255 (by decide) (by decide)
                                    have k1288 := hw_kg hm9 k1256 (by decide) (by decide)
                                    have k1289 := hw_kg3 i1278 hHo k1252 k1257 (by decide) (by decide)
                                    have k1290 := hw_kg hm9 k1246 (by decide) (by decide)
                                    have R1291 := hw_RC_mono hm9 R1258
                                    have R1292 := hw_RT_mono hm9 R1259
                                    have R1293 := hw_RS_mono hm9 R1260
                                    have q1294 := hw_qq hm9 q1262 (by decide) (by decide)
                                    have q1295 := hw_qq hm9 q1263 (by decide) (by decide)
                                    have k1296 := hw_kg hm9 k1264 (by decide) (by decide)
                                    have R1297 := hw_RK_mono hm9 R1265
                                    have k1298 := hw_kg hm9 k1266 (by decide) (by decide)
                                    have k1299 := hw_kg hm9 k1267 (by decide) (by decide)
                                    have R1300 := hw_RK_mono hm9 R1268
                                    have k1301 := hw_kg hm9 k1269 (by decide) (by decide)
                                    have k1302 := hw_kg hm9 k1270 (by decide) (by decide)
                                    have R1303 := hw_RK_mono hm9 R1271
                                    have k1304 := hw_kg hm9 k1272 (by decide) (by decide)
                                    have k1305 := hw_kg hm9 k1273 (by decide) (by decide)
                                    have R1306 := hw_RK_mono hm9 R1274
                                    have k1307 := hw_kg hm9 k1275 (by decide) (by decide)
                                    have hHo := hH
                                    obtain ⟨hH, hm9⟩ := hw_HT.rekind (k := 29) hH (by rw [k1285]; decide) v118 (show hw_AQn D.2.1 6 2 G1276 8 _ from ⟨_, rfl, fun j hj => by rcases (show j = 0 ∨ j = 1 by omega) with rfl | rfl <;> first | exact ⟨q775, rfl, q1294 0 _ (by decide) rfl⟩ | exact ⟨q890, rfl, q1294 1 _ (by decide) rfl⟩⟩)
                                    obtain ⟨G1308, e1309⟩ : ∃ z, z = va_up G1276 q111 29 := ⟨_, rfl⟩
                                    rw [← e1309] at hH hm9
                                    have i1310 : ∀ x, x < H.size → x ≠ q111 → G1308 x = G1276 x := fun x _ h9 => by rw [e1309]; exact va_up_ne _ _ h9
                                    have k1311 : G1308 q111 = 29 := by rw [e1309]; exact va_up_self _ _ _
                                    have g1312 : ∀ x, x < s.heap.size → G1308 x = G x := fun x h9 => by rw [e1309, va_up_ne _ _ (fun e9 => by have := w119; omega)]; exact g1280 x h9
                                    have k1313 := hw_kg3 i1310 hHo k1285 k1281 (by decide) (by decide)
                                    have k1314 := hw_kg hm9 k1282 (by decide) (by decide)
                                    have k1315 := hw_kg hm9 k1283 (by decide) (by decide)
                                    have k1316 := hw_kg hm9 k1284 (by decide) (by decide)
                                    have k1317 := hw_kg hm9 k1286 (by decide) (by decide)
                                    have k1318 := hw_kg hm9 k1287 (by decide) (by decide)
                                    have k1319 := hw_kg hm9 k1288 (by decide) (by decide)
                                    have k1320 := hw_kg3 i1310 hHo k1285 k1289 (by decide) (by decide)
                                    have k1321 := hw_kg hm9 k1290 (by decide) (by decide)
                                    have k1322 := hw_kg hm9 k1279 (by decide) (by decide)
                                    have R1323 := hw_RC_mono hm9 R1291
                                    have R1324 := hw_RT_mono hm9 R1292
                                    have R1325 := hw_RS_mono hm9 R1293
                                    have q1326 := hw_qq hm9 q1295 (by decide) (by decide)
                                    have k1327 := hw_kg hm9 k1296 (by decide) (by decide)
                                    have R1328 := hw_RK_mono hm9 R1297
                                    have k1329 := hw_kg hm9 k1298 (by decide) (by decide)
                                    have k1330 := hw_kg hm9 k1299 (by decide) (by decide)
                                    have R1331 := hw_RK_mono hm9 R1300
                                    have k1332 := hw_kg hm9 k1301 (by decide) (by decide)
                                    have k1333 := hw_kg hm9 k1302 (by decide) (by decide)
                                    have R1334 := hw_RK_mono hm9 R1303
                                    have k1335 := hw_kg hm9 k1304 (by decide) (by decide)
                                    have k1336 := hw_kg hm9 k1305 (by decide) (by decide)
                                    have R1337 := hw_RK_mono hm9 R1306
                                    have k1338 := hw_kg hm9 k1307 (by decide) (by decide)
                                    have hHo := hH
                                    obtain ⟨hH, hm9⟩ := hw_HT.rekind (k := 32) hH (by rw [k1320]; decide) v232 (show hw_AQn D.2.1 7 4 G1308 6 _ from ⟨_, rfl, fun j hj => by rcases (show j = 0 ∨ j = 1 ∨ j = 2 ∨ j = 3 by omega) with rfl | rfl | rfl | rfl <;> first | exact ⟨q949, rfl, q1326 0 _ (by decide) rfl⟩ | exact ⟨q1009, rfl, q1326 1 _ (by decide) rfl⟩ | exact ⟨q1078, rfl, q1326 2 _ (by decide) rfl⟩ | exact ⟨q1156, rfl, q1326 3 _ (by decide) rfl⟩⟩)
                                    obtain ⟨G1339, e1340⟩ : ∃ z, z = va_up G1308 q225 32 := ⟨_, rfl⟩
                                    rw [← e1340] at hH hm9
                                    have i1341 : ∀ x, x < H.size → x ≠ q225 → G1339 x = G1308 x := fun x _ h9 => by rw [e1340]; exact va_up_ne _ _ h9
                                    have k1342 : G1339 q225 = 32 := by rw [e1340]; exact va_up_self _ _ _
                                    have g1343 : ∀ x, x < s.heap.size → G1339 x = G x := fun x h9 => by rw [e1340, va_up_ne _ _ (fun e9 => by have := w233; omega)]; exact g1312 x h9
                                    have k1344 := hw_kg3 i1341 hHo k1320 k1313 (by decide) (by decide)
                                    have k1345 := hw_kg hm9 k1314 (by decide) (by decide)
                                    have k1346 := hw_kg hm9 k1315 (by decide) (by decide)
                                    have k1347 := hw_kg hm9 k1316 (by decide) (by decide)
                                    have k1348 := hw_kg hm9 k1317 (by decide) (by decide)
                                    have k1349 := hw_kg hm9 k1318 (by decide) (by decide)
                                    have k1350 := hw_kg hm9 k1319 (by decide) (by decide)
                                    have k1351 := hw_kg hm9 k1321 (by decide) (by decide)
                                    have k1352 := hw_kg hm9 k1322 (by decide) (by decide)
                                    have k1353 := hw_kg hm9 k1311 (by decide) (by decide)
                                    have R1354 := hw_RC_mono hm9 R1323
                                    have R1355 := hw_RT_mono hm9 R1324
                                    have R1356 := hw_RS_mono hm9 R1325
                                    have k1357 := hw_kg hm9 k1327 (by decide) (by decide)
                                    have R1358 := hw_RK_mono hm9 R1328
                                    have k1359 := hw_kg hm9 k1329 (by decide) (by decide)
                                    have k1360 := hw_kg hm9 k1330 (by decide) (by decide)
                                    have R1361 := hw_RK_mono hm9 R1331
                                    have k1362 := hw_kg hm9 k1332 (by decide) (by decide)
                                    have k1363 := hw_kg hm9 k1333 (by decide) (by decide)
                                    have R1364 := hw_RK_mono hm9 R1334
                                    have k1365 := hw_kg hm9 k1335 (by decide) (by decide)
                                    have k1366 := hw_kg hm9 k1336 (by decide) (by decide)
                                    have R1367 := hw_RK_mono hm9 R1337
                                    have k1368 := hw_kg hm9 k1338 (by decide) (by decide)
                                    have R1369 : hw_RX G1339 (fun i9 => [q1, q21, q45, q73, 0, 0, q91, q111, 0, q133, q156, 0, q180, q225].getD i9 0) := ⟨k1345, k1346, k1347, k1351, k1352, k1353, k1348, k1349, k1350, k1342⟩
                                    obtain ⟨hH9, hm9⟩ := hw_HT.rekind (k := 1) hH (by rw [k1344]; decide) va (show hw_OX G1339 _ from ⟨(fun i9 => [q1, q21, q45, q73, 0, 0, q91, q111, 0, q133, q156, 0, q180, q225].getD i9 0), 0, 0, 0, 0, rfl, R1369, ⟨by decide, by decide⟩⟩)
                                    refine W.widen (k := 92) (n := 3584) (by first | decide | omega) (by first | decide | omega) ?_
                                    exact hw_vretM hx hb hr hlocks hQ hS ⟨(va_up G1339 h0 1), (fun i9 => [q1, q21, q45, q73, 0, 0, q91, q111, 0, q133, q156, 0, q180, q225].getD i9 0), r15, r37, r63, (va_up (va_up (va_up (va_up (fun _ => none) (0 : Int32).toNatClampNeg (some q949)) (1 : Int32).toNatClampNeg (some q1009)) (2 : Int32).toNatClampNeg (some q1078)) (3 : Int32).toNatClampNeg (some q1156)), (fun j => [(r980 0), (r1045 0), (r1119 0), (r1202 0)].getD j 0), rfl, hH9, (fun q9 h9 n9 => (va_up_ne _ _ n9).trans (g1343 q9 h9)), (va_up_self _ _ _), (hw_RX_mono hm9 R1369), va, (hw_RC_mono hm9 R1354), v17, (hw_RT_mono hm9 R1355), v39, (hw_RS_mono hm9 R1356), v65, v232, ⟨(by
                                        intro i j hi hj h9
                                        rcases (show i = 0 ∨ i = 1 ∨ i = 2 ∨ i = 3 by omega) with rfl | rfl | rfl | rfl <;> rcases (show j = 0 ∨ j = 1 ∨ j = 2 ∨ j = 3 by omega) with rfl | rfl | rfl | rfl
                                        · rfl
                                        · exact absurd (Option.some.inj (show some q949 = some q1009 from h9)) n1019
                                        · exact absurd (Option.some.inj (show some q949 = some q1078 from h9)) n1088
                                        · exact absurd (Option.some.inj (show some q949 = some q1156 from h9)) n1166
                                        · exact absurd (Option.some.inj (show some q1009 = some q949 from h9)).symm n1019
                                        · rfl
                                        · exact absurd (Option.some.inj (show some q1009 = some q1078 from h9)) n1090
                                        · exact absurd (Option.some.inj (show some q1009 = some q1156 from h9)) n1168
                                        · exact absurd (Option.some.inj (show some q1078 = some q949 from h9)).symm n1088
                                        · exact absurd (Option.some.inj (show some q1078 = some q1009 from h9)).symm n1090
                                        · rfl
                                        · exact absurd (Option.some.inj (show some q1078 = some q1156 from h9)) n1170
                                        · exact absurd (Option.some.inj (show some q1156 = some q949 from h9)).symm n1166
                                        · exact absurd (Option.some.inj (show some q1156 = some q1009 from h9)).symm n1168
                                        · exact absurd (Option.some.inj (show some q1156 = some q1078 from h9)).symm n1170
                                        · rfl), (by
                                        intro i j hi hj h9
                                        rcases (show i = 0 ∨ i = 1 ∨ i = 2 ∨ i = 3 by omega) with rfl | rfl | rfl | rfl <;> rcases (show j = 0 ∨ j = 1 ∨ j = 2 ∨ j = 3 by omega) with rfl | rfl | rfl | rfl
                                        · rfl
                                        · exact absurd (show (r980 0) = (r1045 0) from h9) (by have := n1073; omega)
                                        · exact absurd (show (r980 0) = (r1119 0) from h9) (by have := n1150; omega)
                                        · exact absurd (show (r980 0) = (r1202 0) from h9) (by have := n1236; omega)
                                        · exact absurd (show (r1045 0) = (r980 0) from h9) (by have := n1073; omega)
                                        · rfl
                                        · exact absurd (show (r1045 0) = (r1119 0) from h9) (by have := n1151; omega)
                                        · exact absurd (show (r1045 0) = (r1202 0) from h9) (by have := n1237; omega)
                                        · exact absurd (show (r1119 0) = (r980 0) from h9) (by have := n1150; omega)
                                        · exact absurd (show (r1119 0) = (r1045 0) from h9) (by have := n1151; omega)
                                        · rfl
                                        · exact absurd (show (r1119 0) = (r1202 0) from h9) (by have := n1238; omega)
                                        · exact absurd (show (r1202 0) = (r980 0) from h9) (by have := n1236; omega)
                                        · exact absurd (show (r1202 0) = (r1045 0) from h9) (by have := n1237; omega)
                                        · exact absurd (show (r1202 0) = (r1119 0) from h9) (by have := n1238; omega)
                                        · rfl), (fun j hj => by
                                        rcases (show j = 0 ∨ j = 1 ∨ j = 2 ∨ j = 3 by omega) with rfl | rfl | rfl | rfl
                                        · exact ⟨q949, r980, rfl, hw_kg hm9 k1357 (by decide) (by decide), hw_RK_mono hm9 R1358, v982, rfl, x984⟩
                                        · exact ⟨q1009, r1045, rfl, hw_kg hm9 k1360 (by decide) (by decide), hw_RK_mono hm9 R1361, v1047, rfl, x1049⟩
                                        · exact ⟨q1078, r1119, rfl, hw_kg hm9 k1363 (by decide) (by decide), hw_RK_mono hm9 R1364, v1121, rfl, x1123⟩
                                        · exact ⟨q1156, r1202, rfl, hw_kg hm9 k1366 (by decide) (by decide), hw_RK_mono hm9 R1367, v1204, rfl, x1206⟩)⟩⟩ dX11_init_189
                                  · exact absurd c1242 (by decide)
                        · exact absurd c947 (by decide)
                  · exact absurd c716 (by decide)
