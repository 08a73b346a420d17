set_option maxHeartbeats 4000000 in
set_option maxRecDepth 100000 in
theorem k_X12_isKey (l : Launch) (D : hw_D) (G : Nat → Nat) (h0 : Nat) (p1 : Int32) (sz : Nat) (rm : Nat → Nat) (ud_m ky_m lo_m wk_m dk_m ln_m sm_m fi_m be_m rk_m rl_m rw_m cl_m dg_m : Int32) (G0 : G h0 = 9) (Rm : hw_RM G rm) (gud_m : 0 ≤ ud_m.toInt ∧ ud_m.toInt ≤ 8) (gky_m : 0 ≤ ky_m.toInt ∧ ky_m.toInt ≤ 7) (glo_m : 0 ≤ lo_m.toInt ∧ lo_m.toInt ≤ 7) (gwk_m : 0 ≤ wk_m.toInt ∧ wk_m.toInt ≤ 3) (gln_m : 0 ≤ ln_m.toInt ∧ ln_m.toInt ≤ 200) (gsm_m : 0 ≤ sm_m.toInt ∧ sm_m.toInt ≤ 6) (gfi_m : 0 ≤ fi_m.toInt ∧ fi_m.toInt ≤ 200) (gbe_m : 0 ≤ be_m.toInt ∧ be_m.toInt ≤ 200) (grk_m : 0 ≤ rk_m.toInt ∧ rk_m.toInt ≤ 7) (grl_m : 0 ≤ rl_m.toInt ∧ rl_m.toInt ≤ 7) (grw_m : 0 ≤ rw_m.toInt ∧ rw_m.toInt ≤ 3) (gdg_m : 0 ≤ dg_m.toInt ∧ dg_m.toInt ≤ 1) : Met l yX12_isKey wsX12_isKey ({ frames := 1, cells := 0, slots := 0, locals := 25 } : Room) (hw_PC D G [.ref h0, .int p1] sz (fun H => va_at D.1 vwCl (h0, .inr (11, hw_LM rm ud_m ky_m lo_m wk_m dk_m ln_m sm_m fi_m be_m rk_m rl_m rw_m cl_m dg_m)) H)) (hw_QR (fun v => (v = .int 1 ∧ (0 ≤ p1.toInt ∧ p1.toInt < ky_m.toInt)) ∨ (v = .int 0 ∧ (p1.toInt < 0 ∨ ky_m.toInt ≤ p1.toInt)))) 0 0 (fun _ => False) := by
  refine hw_met (cc := cX12_isKey) (maxL := 2) (ret := (some .boolean)) (plainFor_of_name (by decide)) rfl (Nat.le_of_ble_eq_true rfl) ?_
  intro p e s m args below meth c QQ ls hsz hx hb hml hr hts hown hlocks hnm hH hK hST hF hQ hl
  subst hsz
  have hS : va_S (hw_AW G [] s.heap.size) s.heap s.heap [] := va_S.rf
  have vm := hF
  have hl : lv_has ls 2 [(0, .ref h0), (1, .int p1)] := hl
  have u_11 : ∀ w ∈ u_ws RX12 TX12 45, w.before args s = true := fun w hw => hts w ((by decide +kernel : ∀ w ∈ u_ws RX12 TX12 45, w ∈ wsX12_isKey) w hw)
  have fg_142_11 : hw_FG s args m 142 11 3 := ⟨RX12, "WardWalkersModel", RX12, TX12, 45, u_11, hown, rfl, by decide, (hts (.fieldLink RX12 142 "WardWalkersModel" "keys" "I") (by decide +kernel)), (fun _ h9 => h9)⟩
  refine lv_iload_n hx hb dX12_isKey_0 rfl (lv_at hl 1 rfl) ?_
  refine lv_i2l hx hb dX12_isKey_1 rfl ?_
  refine lv_topl (fun x1 e2 => ?_)
  have t3 : x1.toInt = p1.toInt := by rw [e2]; exact hw_i2l _
  have rg4 := hw_rng p1
  refine lv_lconst (v := 0) hx hb dX12_isKey_2 (by decide) ?_
  refine lv_aload_n hx hb dX12_isKey_3 rfl (lv_at hl 0 rfl) ?_
  refine hw_get hx hb fg_142_11 hK vm rfl dX12_isKey_4 ?_
  refine lv_iconst (v := 1) hx hb dX12_isKey_7 (by decide) ?_
  refine lv_isub hx hb dX12_isKey_8 ?_
  refine lv_topi (fun x5 e6 => ?_)
  have t7 : x5.toInt = ky_m.toInt - 1 := by rw [e6]; exact hw_sub rfl rfl (by omega) (by omega)
  refine lv_i2l hx hb dX12_isKey_9 rfl ?_
  refine lv_topl (fun x8 e9 => ?_)
  have t10 : x8.toInt = x5.toInt := by rw [e9]; exact hw_i2l _
  refine hw_cR (va_runS (As := [.long x1, .long 0, .long x8]) (rest := []) ⟨hx, hb, hml, hown, hts⟩ (k_X12_in l D G x1 0 x8 _) (va_cwS 3 hts gX12_isKey_X12_in rfl rfl rfl (by decide +kernel) ⟨Nat.le_of_ble_eq_true rfl, Nat.le_of_ble_eq_true rfl⟩) (hw_pS hH hK hST hS (by decide) (fun _ h => Or.inl h) trivial) rfl rfl hl.1 rfl (lv_room (Nat.le_of_ble_eq_true rfl)) dX12_isKey_10 ⟨Nat.le_of_ble_eq_true rfl, Nat.le_of_ble_eq_true rfl⟩) (fun v hp => ?_)
  have l11 : (0 : Int64).toInt = 0 := by decide
  rcases hp with ⟨rfl, q12⟩ | ⟨rfl, q13⟩
  · exact hw_iretR (v := 1) hx hb hr hlocks hQ rfl (Or.inl ⟨rfl, (by first | rfl | trivial | assumption | omega | (intros; first | rfl | assumption | omega | (exfalso; omega)))⟩) dX12_isKey_13
  · exact hw_iretR (v := 0) hx hb hr hlocks hQ rfl (Or.inr (⟨rfl, (by first | rfl | trivial | assumption | omega | (intros; first | rfl | assumption | omega | (exfalso; omega)))⟩)) dX12_isKey_13

set_option maxHeartbeats 4000000 in
set_option maxRecDepth 100000 in
theorem k_X12_isLock (l : Launch) (D : hw_D) (G : Nat → Nat) (h0 : Nat) (p1 : Int32) (sz : Nat) (rm : Nat → Nat) (ud_m ky_m lo_m wk_m dk_m ln_m sm_m fi_m be_m rk_m rl_m rw_m cl_m dg_m : Int32) (G0 : G h0 = 9) (Rm : hw_RM G rm) (gud_m : 0 ≤ ud_m.toInt ∧ ud_m.toInt ≤ 8) (gky_m : 0 ≤ ky_m.toInt ∧ ky_m.toInt ≤ 7) (glo_m : 0 ≤ lo_m.toInt ∧ lo_m.toInt ≤ 7) (gwk_m : 0 ≤ wk_m.toInt ∧ wk_m.toInt ≤ 3) (gln_m : 0 ≤ ln_m.toInt ∧ ln_m.toInt ≤ 200) (gsm_m : 0 ≤ sm_m.toInt ∧ sm_m.toInt ≤ 6) (gfi_m : 0 ≤ fi_m.toInt ∧ fi_m.toInt ≤ 200) (gbe_m : 0 ≤ be_m.toInt ∧ be_m.toInt ≤ 200) (grk_m : 0 ≤ rk_m.toInt ∧ rk_m.toInt ≤ 7) (grl_m : 0 ≤ rl_m.toInt ∧ rl_m.toInt ≤ 7) (grw_m : 0 ≤ rw_m.toInt ∧ rw_m.toInt ≤ 3) (gdg_m : 0 ≤ dg_m.toInt ∧ dg_m.toInt ≤ 1) : Met l yX12_isLock wsX12_isLock ({ frames := 1, cells := 0, slots := 0, locals := 25 } : Room) (hw_PC D G [.ref h0, .int p1] sz (fun H => va_at D.1 vwCl (h0, .inr (11, hw_LM rm ud_m ky_m lo_m wk_m dk_m ln_m sm_m fi_m be_m rk_m rl_m rw_m cl_m dg_m)) H)) (hw_QR (fun v => (v = .int 1 ∧ (0 ≤ p1.toInt ∧ p1.toInt < lo_m.toInt)) ∨ (v = .int 0 ∧ (p1.toInt < 0 ∨ lo_m.toInt ≤ p1.toInt)))) 0 0 (fun _ => False) := by
  refine hw_met (cc := cX12_isLock) (maxL := 2) (ret := (some .boolean)) (plainFor_of_name (by decide)) rfl (Nat.le_of_ble_eq_true rfl) ?_
  intro p e s m args below meth c QQ ls hsz hx hb hml hr hts hown hlocks hnm hH hK hST hF hQ hl
  subst hsz
  have hS : va_S (hw_AW G [] s.heap.size) s.heap s.heap [] := va_S.rf
  have vm := hF
  have hl : lv_has ls 2 [(0, .ref h0), (1, .int p1)] := hl
  have u_11 : ∀ w ∈ u_ws RX12 TX12 45, w.before args s = true := fun w hw => hts w ((by decide +kernel : ∀ w ∈ u_ws RX12 TX12 45, w ∈ wsX12_isLock) w hw)
  have fg_145_11 : hw_FG s args m 145 11 7 := ⟨RX12, "WardWalkersModel", RX12, TX12, 45, u_11, hown, rfl, by decide, (hts (.fieldLink RX12 145 "WardWalkersModel" "locks" "I") (by decide +kernel)), (fun _ h9 => h9)⟩
  refine lv_iload_n hx hb dX12_isLock_0 rfl (lv_at hl 1 rfl) ?_
  refine lv_i2l hx hb dX12_isLock_1 rfl ?_
  refine lv_topl (fun x1 e2 => ?_)
  have t3 : x1.toInt = p1.toInt := by rw [e2]; exact hw_i2l _
  have rg4 := hw_rng p1
  refine lv_lconst (v := 0) hx hb dX12_isLock_2 (by decide) ?_
  refine lv_aload_n hx hb dX12_isLock_3 rfl (lv_at hl 0 rfl) ?_
  refine hw_get hx hb fg_145_11 hK vm rfl dX12_isLock_4 ?_
  refine lv_iconst (v := 1) hx hb dX12_isLock_7 (by decide) ?_
  refine lv_isub hx hb dX12_isLock_8 ?_
  refine lv_topi (fun x5 e6 => ?_)
  have t7 : x5.toInt = lo_m.toInt - 1 := by rw [e6]; exact hw_sub rfl rfl (by omega) (by omega)
  refine lv_i2l hx hb dX12_isLock_9 rfl ?_
  refine lv_topl (fun x8 e9 => ?_)
  have t10 : x8.toInt = x5.toInt := by rw [e9]; exact hw_i2l _
  refine hw_cR (va_runS (As := [.long x1, .long 0, .long x8]) (rest := []) ⟨hx, hb, hml, hown, hts⟩ (k_X12_in l D G x1 0 x8 _) (va_cwS 3 hts gX12_isLock_X12_in rfl rfl rfl (by decide +kernel) ⟨Nat.le_of_ble_eq_true rfl, Nat.le_of_ble_eq_true rfl⟩) (hw_pS hH hK hST hS (by decide) (fun _ h => Or.inl h) trivial) rfl rfl hl.1 rfl (lv_room (Nat.le_of_ble_eq_true rfl)) dX12_isLock_10 ⟨Nat.le_of_ble_eq_true rfl, Nat.le_of_ble_eq_true rfl⟩) (fun v hp => ?_)
  have l11 : (0 : Int64).toInt = 0 := by decide
  rcases hp with ⟨rfl, q12⟩ | ⟨rfl, q13⟩
  · exact hw_iretR (v := 1) hx hb hr hlocks hQ rfl (Or.inl ⟨rfl, (by first | rfl | trivial | assumption | omega | (intros; first | rfl | assumption | omega | (exfalso; omega)))⟩) dX12_isLock_13
  · exact hw_iretR (v := 0) hx hb hr hlocks hQ rfl (Or.inr (⟨rfl, (by first | rfl | trivial | assumption | omega | (intros; first | rfl | assumption | omega | (exfalso; omega)))⟩)) dX12_isLock_13

set_option maxHeartbeats 4000000 in
set_option maxRecDepth 100000 in
theorem k_X12_isWalker (l : Launch) (D : hw_D) (G : Nat → Nat) (h0 : Nat) (p1 : Int32) (sz : Nat) (rm : Nat → Nat) (ud_m ky_m lo_m wk_m dk_m ln_m sm_m fi_m be_m rk_m rl_m rw_m cl_m dg_m : Int32) (G0 : G h0 = 9) (Rm : hw_RM G rm) (gud_m : 0 ≤ ud_m.toInt ∧ ud_m.toInt ≤ 8) (gky_m : 0 ≤ ky_m.toInt ∧ ky_m.toInt ≤ 7) (glo_m : 0 ≤ lo_m.toInt ∧ lo_m.toInt ≤ 7) (gwk_m : 0 ≤ wk_m.toInt ∧ wk_m.toInt ≤ 3) (gln_m : 0 ≤ ln_m.toInt ∧ ln_m.toInt ≤ 200) (gsm_m : 0 ≤ sm_m.toInt ∧ sm_m.toInt ≤ 6) (gfi_m : 0 ≤ fi_m.toInt ∧ fi_m.toInt ≤ 200) (gbe_m : 0 ≤ be_m.toInt ∧ be_m.toInt ≤ 200) (grk_m : 0 ≤ rk_m.toInt ∧ rk_m.toInt ≤ 7) (grl_m : 0 ≤ rl_m.toInt ∧ rl_m.toInt ≤ 7) (grw_m : 0 ≤ rw_m.toInt ∧ rw_m.toInt ≤ 3) (gdg_m : 0 ≤ dg_m.toInt ∧ dg_m.toInt ≤ 1) : Met l yX12_isWalker wsX12_isWalker ({ frames := 1, cells := 0, slots := 0, locals := 25 } : Room) (hw_PC D G [.ref h0, .int p1] sz (fun H => va_at D.1 vwCl (h0, .inr (11, hw_LM rm ud_m ky_m lo_m wk_m dk_m ln_m sm_m fi_m be_m rk_m rl_m rw_m cl_m dg_m)) H)) (hw_QR (fun v => (v = .int 1 ∧ (0 ≤ p1.toInt ∧ p1.toInt < wk_m.toInt)) ∨ (v = .int 0 ∧ (p1.toInt < 0 ∨ wk_m.toInt ≤ p1.toInt)))) 0 0 (fun _ => False) := by
  refine hw_met (cc := cX12_isWalker) (maxL := 2) (ret := (some .boolean)) (plainFor_of_name (by decide)) rfl (Nat.le_of_ble_eq_true rfl) ?_
  intro p e s m args below meth c QQ ls hsz hx hb hml hr hts hown hlocks hnm hH hK hST hF hQ hl
  subst hsz
  have hS : va_S (hw_AW G [] s.heap.size) s.heap s.heap [] := va_S.rf
  have vm := hF
  have hl : lv_has ls 2 [(0, .ref h0), (1, .int p1)] := hl
  have u_11 : ∀ w ∈ u_ws RX12 TX12 45, w.before args s = true := fun w hw => hts w ((by decide +kernel : ∀ w ∈ u_ws RX12 TX12 45, w ∈ wsX12_isWalker) w hw)
  have fg_148_11 : hw_FG s args m 148 11 12 := ⟨RX12, "WardWalkersModel", RX12, TX12, 45, u_11, hown, rfl, by decide, (hts (.fieldLink RX12 148 "WardWalkersModel" "walkers" "I") (by decide +kernel)), (fun _ h9 => h9)⟩
  refine lv_iload_n hx hb dX12_isWalker_0 rfl (lv_at hl 1 rfl) ?_
  refine lv_i2l hx hb dX12_isWalker_1 rfl ?_
  refine lv_topl (fun x1 e2 => ?_)
  have t3 : x1.toInt = p1.toInt := by rw [e2]; exact hw_i2l _
  have rg4 := hw_rng p1
  refine lv_lconst (v := 0) hx hb dX12_isWalker_2 (by decide) ?_
  refine lv_aload_n hx hb dX12_isWalker_3 rfl (lv_at hl 0 rfl) ?_
  refine hw_get hx hb fg_148_11 hK vm rfl dX12_isWalker_4 ?_
  refine lv_iconst (v := 1) hx hb dX12_isWalker_7 (by decide) ?_
  refine lv_isub hx hb dX12_isWalker_8 ?_
  refine lv_topi (fun x5 e6 => ?_)
  have t7 : x5.toInt = wk_m.toInt - 1 := by rw [e6]; exact hw_sub rfl rfl (by omega) (by omega)
  refine lv_i2l hx hb dX12_isWalker_9 rfl ?_
  refine lv_topl (fun x8 e9 => ?_)
  have t10 : x8.toInt = x5.toInt := by rw [e9]; exact hw_i2l _
  refine hw_cR (va_runS (As := [.long x1, .long 0, .long x8]) (rest := []) ⟨hx, hb, hml, hown, hts⟩ (k_X12_in l D G x1 0 x8 _) (va_cwS 3 hts gX12_isWalker_X12_in rfl rfl rfl (by decide +kernel) ⟨Nat.le_of_ble_eq_true rfl, Nat.le_of_ble_eq_true rfl⟩) (hw_pS hH hK hST hS (by decide) (fun _ h => Or.inl h) trivial) rfl rfl hl.1 rfl (lv_room (Nat.le_of_ble_eq_true rfl)) dX12_isWalker_10 ⟨Nat.le_of_ble_eq_true rfl, Nat.le_of_ble_eq_true rfl⟩) (fun v hp => ?_)
  have l11 : (0 : Int64).toInt = 0 := by decide
  rcases hp with ⟨rfl, q12⟩ | ⟨rfl, q13⟩
  · exact hw_iretR (v := 1) hx hb hr hlocks hQ rfl (Or.inl ⟨rfl, (by first | rfl | trivial | assumption | omega | (intros; first | rfl | assumption | omega | (exfalso; omega)))⟩) dX12_isWalker_13
  · exact hw_iretR (v := 0) hx hb hr hlocks hQ rfl (Or.inr (⟨rfl, (by first | rfl | trivial | assumption | omega | (intros; first | rfl | assumption | omega | (exfalso; omega)))⟩)) dX12_isWalker_13

set_option maxHeartbeats 4000000 in
set_option maxRecDepth 100000 in
theorem k_X12_without (l : Launch) (D : hw_D) (G : Nat → Nat) (p1 : Int32) (p2 : Int32) (p3 : Int32) (sz : Nat) : Met l yX12_without wsX12_without ({ frames := 1, cells := 0, slots := 0, locals := 21 } : Room) (hw_PC D G [.int p1, .int p2, .int p3] sz (fun H => True)) (hw_QR (fun v => ∃ (r : Int32), v = .int r)) 0 0 (fun _ => False) := by
  refine hw_met (cc := cX12_without) (maxL := 7) (ret := (some .int)) (plainFor_of_name (by decide)) rfl (Nat.le_of_ble_eq_true rfl) ?_
  intro p e s m args below meth c QQ ls hsz hx hb hml hr hts hown hlocks hnm hH hK hST hF hQ hl
  subst hsz
  have hS : va_S (hw_AW G [] s.heap.size) s.heap s.heap [] := va_S.rf
  have hl : lv_has ls 7 [(0, .int p1), (1, .int p2), (2, .int p3)] := hl
  have hp2r := hw_rng p2
  refine lv_iload_n hx hb dX12_without_0 rfl (lv_at hl 0 rfl) ?_
  refine lv_istore_n (lv' := [(3, .int p1), (0, .int p1), (1, .int p2), (2, .int p3)]) hx hb dX12_without_1 rfl hl (by decide) rfl (fun ls hl => ?_)
  refine lv_iconst (v := 0) hx hb dX12_without_2 (by decide) ?_
  refine lv_istore (lv' := [(4, .int 0), (3, .int p1), (0, .int p1), (1, .int p2), (2, .int p3)]) hx hb dX12_without_3 hl (by decide) rfl (fun ls hl => ?_)
  refine lv_iconst (v := 0) hx hb dX12_without_5 (by decide) ?_
  refine lv_istore (lv' := [(5, .int 0), (4, .int 0), (3, .int p1), (0, .int p1), (1, .int p2), (2, .int p3)]) hx hb dX12_without_6 hl (by decide) rfl (fun ls hl => ?_)
  have L8 : ∀ (n5 : Nat) (y5_1 : Int32) (y4_2 : Int32) (y3_3 : Int32) (hm : (9 - y5_1.toInt).toNat < n5) (g4 : 0 ≤ y5_1.toInt ∧ y5_1.toInt ≤ 9) (ls : Array Slot) (hl : lv_has ls 7 [(5, .int y5_1), (4, .int y4_2), (3, .int y3_3), (0, .int p1), (1, .int p2), (2, .int p3)]), W p l e ({ frames := 1, cells := 0, slots := 0, locals := 21 } : Room) s m args below meth c s.heap [] 0 0 QQ (F0 m 8 ls []) := by
    intro n5
    induction n5 with
    | zero => intro y5_1 y4_2 y3_3 hm; exact absurd hm (Nat.not_lt_zero _)
    | succ n5 ih8 =>
      intro y5_1 y4_2 y3_3 hm g4 ls hl
      refine lv_iload hx hb dX12_without_8 (lv_at hl 0 rfl) ?_
      refine lv_bipush (v := 9) hx hb dX12_without_10 (by decide) ?_
      refine lv_icmp_ge (tgt := 64) hx hb dX12_without_12 (by decide) (fun c6 => ?_) (fun c6 => ?_)
      · have b7 : 9 ≤ y5_1.toInt := hw_ile c6
        refine lv_iload_n hx hb dX12_without_64 rfl (lv_at hl 2 rfl) ?_
        exact hw_iretR (v := y3_3) hx hb hr hlocks hQ rfl (⟨y3_3, rfl⟩) dX12_without_65
      · have b8 : y5_1.toInt < 9 := hw_inle c6
        refine lv_iload_n hx hb dX12_without_15 rfl (lv_at hl 5 rfl) ?_
        refine lv_if_eq (tgt := 27) hx hb dX12_without_16 (by decide) (fun c9 => ?_) (fun c9 => ?_)
        · have b10 : p3.toInt = 0 := hw_ieq c9
          refine lv_iload hx hb dX12_without_27 (lv_at hl 0 rfl) ?_
          refine lv_istore (lv' := [(6, .int y5_1), (5, .int y5_1), (4, .int y4_2), (3, .int y3_3), (0, .int p1), (1, .int p2), (2, .int p3)]) hx hb dX12_without_29 hl (by decide) rfl (fun ls hl => ?_)
          refine lv_iload_n hx hb dX12_without_31 rfl (lv_at hl 3 rfl) ?_
          refine lv_iload hx hb dX12_without_32 (lv_at hl 0 rfl) ?_
          refine hw_cR (va_runS (As := [.int y3_3, .int y5_1]) (rest := []) ⟨hx, hb, hml, hown, hts⟩ (k_X12_has l D G y3_3 y5_1 _) (va_cwS 2 hts gX12_without_X12_has rfl rfl rfl (by decide +kernel) ⟨Nat.le_of_ble_eq_true rfl, Nat.le_of_ble_eq_true rfl⟩) (hw_pS hH hK hST hS (by decide) (fun _ h => Or.inl h) trivial) rfl rfl hl.1 rfl (lv_room (Nat.le_of_ble_eq_true rfl)) dX12_without_34 ⟨Nat.le_of_ble_eq_true rfl, Nat.le_of_ble_eq_true rfl⟩) (fun v hp => ?_)
          rcases hp with rfl | rfl
          · refine lv_if_eq (tgt := 58) hx hb dX12_without_37 (by decide) (fun c11 => ?_) (fun c11 => ?_)
            · exact absurd c11 (by decide)
            · refine lv_iload hx hb dX12_without_40 (lv_at hl 2 rfl) ?_
              refine lv_iload_n hx hb dX12_without_42 rfl (lv_at hl 5 rfl) ?_
              refine lv_icmp_ge (tgt := 58) hx hb dX12_without_43 (by decide) (fun c12 => ?_) (fun c12 => ?_)
              · have b13 : p2.toInt ≤ y4_2.toInt := hw_ile c12
                obtain ⟨x14, e15⟩ : ∃ y : Int32, y = y5_1 + 1 := ⟨_, rfl⟩
                refine lv_iinc (v := x14) (lv' := [(5, .int x14), (6, .int y5_1), (4, .int y4_2), (3, .int y3_3), (0, .int p1), (1, .int p2), (2, .int p3)]) hx hb dX12_without_58 hl (k := 1) rfl (by rw [e15]; rfl) (by decide) rfl (fun ls hl => ?_)
                have t16 : x14.toInt = y5_1.toInt + 1 := by rw [e15]; exact hw_add rfl rfl (by omega) (by omega)
                refine lv_goto (tgt := 8) hx hb dX12_without_61 (by decide) ?_
                exact ih8 x14 y4_2 y3_3 (by first | omega | omega) ⟨by first | decide | omega, by first | decide | omega⟩ _ (lv_sub hl [0, 2, 3, 4, 5, 6] rfl)
              · have b17 : y4_2.toInt < p2.toInt := hw_inle c12
                refine lv_iload_n hx hb dX12_without_46 rfl (lv_at hl 3 rfl) ?_
                refine lv_iconst (v := 1) hx hb dX12_without_47 (by decide) ?_
                refine lv_iload hx hb dX12_without_48 (lv_at hl 0 rfl) ?_
                refine lv_ishl hx hb dX12_without_50 ?_
                refine lv_topi (fun x18 e19 => ?_)
                have t20 : 1 ≤ x18.toInt ∧ x18.toInt ≤ 256 := by rw [e19]; exact hw_sh1b 8 (by decide) (by first | decide | omega) (by first | decide | omega)
                refine lv_iconst (v := (-1)) hx hb dX12_without_51 (by decide) ?_
                refine lv_ixor hx hb dX12_without_52 ?_
                refine lv_topi (fun x21 e22 => ?_)
                refine lv_iand hx hb dX12_without_53 ?_
                refine lv_topi (fun x23 e24 => ?_)
                refine lv_istore_n (lv' := [(3, .int x23), (6, .int y5_1), (5, .int y5_1), (4, .int y4_2), (0, .int p1), (1, .int p2), (2, .int p3)]) hx hb dX12_without_54 rfl hl (by decide) rfl (fun ls hl => ?_)
                obtain ⟨x25, e26⟩ : ∃ y : Int32, y = y4_2 + 1 := ⟨_, rfl⟩
                refine lv_iinc (v := x25) (lv' := [(4, .int x25), (3, .int x23), (6, .int y5_1), (5, .int y5_1), (0, .int p1), (1, .int p2), (2, .int p3)]) hx hb dX12_without_55 hl (k := 3) rfl (by rw [e26]; rfl) (by decide) rfl (fun ls hl => ?_)
                have rg27 := hw_rng y4_2
                have t28 : x25.toInt = y4_2.toInt + 1 := by rw [e26]; exact hw_add rfl rfl (by omega) (by omega)
                obtain ⟨x29, e30⟩ : ∃ y : Int32, y = y5_1 + 1 := ⟨_, rfl⟩
                refine lv_iinc (v := x29) (lv' := [(5, .int x29), (4, .int x25), (3, .int x23), (6, .int y5_1), (0, .int p1), (1, .int p2), (2, .int p3)]) hx hb dX12_without_58 hl (k := 3) rfl (by rw [e30]; rfl) (by decide) rfl (fun ls hl => ?_)
                have t31 : x29.toInt = y5_1.toInt + 1 := by rw [e30]; exact hw_add rfl rfl (by omega) (by omega)
                refine lv_goto (tgt := 8) hx hb dX12_without_61 (by decide) ?_
                exact ih8 x29 x25 x23 (by first | omega | omega) ⟨by first | decide | omega, by first | decide | omega⟩ _ (lv_sub hl [0, 1, 2, 4, 5, 6] rfl)
          · refine lv_if_eq (tgt := 58) hx hb dX12_without_37 (by decide) (fun c32 => ?_) (fun c32 => ?_)
            · obtain ⟨x33, e34⟩ : ∃ y : Int32, y = y5_1 + 1 := ⟨_, rfl⟩
              refine lv_iinc (v := x33) (lv' := [(5, .int x33), (6, .int y5_1), (4, .int y4_2), (3, .int y3_3), (0, .int p1), (1, .int p2), (2, .int p3)]) hx hb dX12_without_58 hl (k := 1) rfl (by rw [e34]; rfl) (by decide) rfl (fun ls hl => ?_)
              have t35 : x33.toInt = y5_1.toInt + 1 := by rw [e34]; exact hw_add rfl rfl (by omega) (by omega)
              refine lv_goto (tgt := 8) hx hb dX12_without_61 (by decide) ?_
              exact ih8 x33 y4_2 y3_3 (by first | omega | omega) ⟨by first | decide | omega, by first | decide | omega⟩ _ (lv_sub hl [0, 2, 3, 4, 5, 6] rfl)
            · exact absurd c32 (by decide)
        · have b36 : p3.toInt ≠ 0 := hw_ine c9
          refine lv_bipush (v := 8) hx hb dX12_without_19 (by decide) ?_
          refine lv_iload hx hb dX12_without_21 (lv_at hl 0 rfl) ?_
          refine lv_isub hx hb dX12_without_23 ?_
          refine lv_topi (fun x37 e38 => ?_)
          have t39 : x37.toInt = 8 - y5_1.toInt := by rw [e38]; exact hw_sub rfl rfl (by omega) (by omega)
          refine lv_goto (tgt := 29) hx hb dX12_without_24 (by decide) ?_
          refine lv_istore (lv' := [(6, .int x37), (5, .int y5_1), (4, .int y4_2), (3, .int y3_3), (0, .int p1), (1, .int p2), (2, .int p3)]) hx hb dX12_without_29 hl (by decide) rfl (fun ls hl => ?_)
          refine lv_iload_n hx hb dX12_without_31 rfl (lv_at hl 3 rfl) ?_
          refine lv_iload hx hb dX12_without_32 (lv_at hl 0 rfl) ?_
          refine hw_cR (va_runS (As := [.int y3_3, .int x37]) (rest := []) ⟨hx, hb, hml, hown, hts⟩ (k_X12_has l D G y3_3 x37 _) (va_cwS 2 hts gX12_without_X12_has rfl rfl rfl (by decide +kernel) ⟨Nat.le_of_ble_eq_true rfl, Nat.le_of_ble_eq_true rfl⟩) (hw_pS hH hK hST hS (by decide) (fun _ h => Or.inl h) trivial) rfl rfl hl.1 rfl (lv_room (Nat.le_of_ble_eq_true rfl)) dX12_without_34 ⟨Nat.le_of_ble_eq_true rfl, Nat.le_of_ble_eq_true rfl⟩) (fun v hp => ?_)
          rcases hp with rfl | rfl
          · refine lv_if_eq (tgt := 58) hx hb dX12_without_37 (by decide) (fun c40 => ?_) (fun c40 => ?_)
            · exact absurd c40 (by decide)
            · refine lv_iload hx hb dX12_without_40 (lv_at hl 2 rfl) ?_
              refine lv_iload_n hx hb dX12_without_42 rfl (lv_at hl 5 rfl) ?_
              refine lv_icmp_ge (tgt := 58) hx hb dX12_without_43 (by decide) (fun c41 => ?_) (fun c41 => ?_)
              · have b42 : p2.toInt ≤ y4_2.toInt := hw_ile c41
                obtain ⟨x43, e44⟩ : ∃ y : Int32, y = y5_1 + 1 := ⟨_, rfl⟩
                refine lv_iinc (v := x43) (lv' := [(5, .int x43), (6, .int x37), (4, .int y4_2), (3, .int y3_3), (0, .int p1), (1, .int p2), (2, .int p3)]) hx hb dX12_without_58 hl (k := 1) rfl (by rw [e44]; rfl) (by decide) rfl (fun ls hl => ?_)
                have t45 : x43.toInt = y5_1.toInt + 1 := by rw [e44]; exact hw_add rfl rfl (by omega) (by omega)
                refine lv_goto (tgt := 8) hx hb dX12_without_61 (by decide) ?_
                exact ih8 x43 y4_2 y3_3 (by first | omega | omega) ⟨by first | decide | omega, by first | decide | omega⟩ _ (lv_sub hl [0, 2, 3, 4, 5, 6] rfl)
              · have b46 : y4_2.toInt < p2.toInt := hw_inle c41
                refine lv_iload_n hx hb dX12_without_46 rfl (lv_at hl 3 rfl) ?_
                refine lv_iconst (v := 1) hx hb dX12_without_47 (by decide) ?_
                refine lv_iload hx hb dX12_without_48 (lv_at hl 0 rfl) ?_
                refine lv_ishl hx hb dX12_without_50 ?_
                refine lv_topi (fun x47 e48 => ?_)
                have t49 : 1 ≤ x47.toInt ∧ x47.toInt ≤ 256 := by rw [e48]; exact hw_sh1b 8 (by decide) (by first | decide | omega) (by first | decide | omega)
                refine lv_iconst (v := (-1)) hx hb dX12_without_51 (by decide) ?_
                refine lv_ixor hx hb dX12_without_52 ?_
                refine lv_topi (fun x50 e51 => ?_)
                refine lv_iand hx hb dX12_without_53 ?_
                refine lv_topi (fun x52 e53 => ?_)
                refine lv_istore_n (lv' := [(3, .int x52), (6, .int x37), (5, .int y5_1), (4, .int y4_2), (0, .int p1), (1, .int p2), (2, .int p3)]) hx hb dX12_without_54 rfl hl (by decide) rfl (fun ls hl => ?_)
                obtain ⟨x54, e55⟩ : ∃ y : Int32, y = y4_2 + 1 := ⟨_, rfl⟩
                refine lv_iinc (v := x54) (lv' := [(4, .int x54), (3, .int x52), (6, .int x37), (5, .int y5_1), (0, .int p1), (1, .int p2), (2, .int p3)]) hx hb dX12_without_55 hl (k := 3) rfl (by rw [e55]; rfl) (by decide) rfl (fun ls hl => ?_)
                have rg56 := hw_rng y4_2
                have t57 : x54.toInt = y4_2.toInt + 1 := by rw [e55]; exact hw_add rfl rfl (by omega) (by omega)
                obtain ⟨x58, e59⟩ : ∃ y : Int32, y = y5_1 + 1 := ⟨_, rfl⟩
                refine lv_iinc (v := x58) (lv' := [(5, .int x58), (4, .int x54), (3, .int x52), (6, .int x37), (0, .int p1), (1, .int p2), (2, .int p3)]) hx hb dX12_without_58 hl (k := 3) rfl (by rw [e59]; rfl) (by decide) rfl (fun ls hl => ?_)
                have t60 : x58.toInt = y5_1.toInt + 1 := by rw [e59]; exact hw_add rfl rfl (by omega) (by omega)
                refine lv_goto (tgt := 8) hx hb dX12_without_61 (by decide) ?_
                exact ih8 x58 x54 x52 (by first | omega | omega) ⟨by first | decide | omega, by first | decide | omega⟩ _ (lv_sub hl [0, 1, 2, 4, 5, 6] rfl)
          · refine lv_if_eq (tgt := 58) hx hb dX12_without_37 (by decide) (fun c61 => ?_) (fun c61 => ?_)
            · obtain ⟨x62, e63⟩ : ∃ y : Int32, y = y5_1 + 1 := ⟨_, rfl⟩
              refine lv_iinc (v := x62) (lv' := [(5, .int x62), (6, .int x37), (4, .int y4_2), (3, .int y3_3), (0, .int p1), (1, .int p2), (2, .int p3)]) hx hb dX12_without_58 hl (k := 1) rfl (by rw [e63]; rfl) (by decide) rfl (fun ls hl => ?_)
              have t64 : x62.toInt = y5_1.toInt + 1 := by rw [e63]; exact hw_add rfl rfl (by omega) (by omega)
              refine lv_goto (tgt := 8) hx hb dX12_without_61 (by decide) ?_
              exact ih8 x62 y4_2 y3_3 (by first | omega | omega) ⟨by first | decide | omega, by first | decide | omega⟩ _ (lv_sub hl [0, 2, 3, 4, 5, 6] rfl)
            · exact absurd c61 (by decide)
  exact L8 _ 0 0 p1 (Nat.lt_succ_self _) ⟨by first | decide | omega, by first | decide | omega⟩ _ (lv_sub hl [0, 1, 2, 3, 4, 5] rfl)

set_option maxHeartbeats 4000000 in
set_option maxRecDepth 100000 in
theorem k_X12_edgeBy (l : Launch) (D : hw_D) (G : Nat → Nat) (p1 : Int32) (p2 : Int32) (p3 : Int32) (p4 : Int32) (sz : Nat) : Met l yX12_edgeBy wsX12_edgeBy ({ frames := 2, cells := 0, slots := 0, locals := 47 } : Room) (hw_PC D G [.int p1, .int p2, .int p3, .int p4] sz (fun H => True)) (hw_QR (fun v => ∃ (r : Int32), v = .int r)) 0 0 (fun _ => False) := by
  refine hw_met (cc := cX12_edgeBy) (maxL := 5) (ret := (some .int)) (plainFor_of_name (by decide)) rfl (Nat.le_of_ble_eq_true rfl) ?_
  intro p e s m args below meth c QQ ls hsz hx hb hml hr hts hown hlocks hnm hH hK hST hF hQ hl
  subst hsz
  have hS : va_S (hw_AW G [] s.heap.size) s.heap s.heap [] := va_S.rf
  have hl : lv_has ls 5 [(0, .int p1), (1, .int p2), (2, .int p3), (3, .int p4)] := hl
  refine lv_iload_n hx hb dX12_edgeBy_0 rfl (lv_at hl 1 rfl) ?_
  refine lv_iload_n hx hb dX12_edgeBy_1 rfl (lv_at hl 3 rfl) ?_
  refine lv_ishl hx hb dX12_edgeBy_2 ?_
  refine lv_topi (fun x1 e2 => ?_)
  refine lv_iload_n hx hb dX12_edgeBy_3 rfl (lv_at hl 1 rfl) ?_
  refine lv_bipush (v := 9) hx hb dX12_edgeBy_4 (by decide) ?_
  refine lv_iload_n hx hb dX12_edgeBy_6 rfl (lv_at hl 3 rfl) ?_
  refine lv_isub hx hb dX12_edgeBy_7 ?_
  refine lv_topi (fun x3 e4 => ?_)
  refine lv_ishr hx hb dX12_edgeBy_8 ?_
  refine lv_topi (fun x5 e6 => ?_)
  refine lv_ior hx hb dX12_edgeBy_9 ?_
  refine lv_topi (fun x7 e8 => ?_)
  refine lv_sipush (v := 511) hx hb dX12_edgeBy_10 (by decide) ?_
  refine lv_iand hx hb dX12_edgeBy_13 ?_
  refine lv_topi (fun x9 e10 => ?_)
  have t11 : 0 ≤ x9.toInt ∧ x9.toInt ≤ 511 := by rw [e10]; exact hw_and (by first | decide | omega)
  refine lv_istore (lv' := [(4, .int x9), (0, .int p1), (1, .int p2), (2, .int p3), (3, .int p4)]) hx hb dX12_edgeBy_14 hl (by decide) rfl (fun ls hl => ?_)
  refine lv_iload_n hx hb dX12_edgeBy_16 rfl (lv_at hl 1 rfl) ?_
  refine lv_iconst (v := 1) hx hb dX12_edgeBy_17 (by decide) ?_
  refine lv_icmp_ne (tgt := 31) hx hb dX12_edgeBy_18 (by decide) (fun c12 => ?_) (fun c12 => ?_)
  · have b13 : p1.toInt ≠ 1 := hw_ine c12
    refine lv_iload_n hx hb dX12_edgeBy_31 rfl (lv_at hl 1 rfl) ?_
    refine lv_iconst (v := 3) hx hb dX12_edgeBy_32 (by decide) ?_
    refine lv_icmp_ne (tgt := 46) hx hb dX12_edgeBy_33 (by decide) (fun c14 => ?_) (fun c14 => ?_)
    · have b15 : p1.toInt ≠ 3 := hw_ine c14
      refine lv_iload hx hb dX12_edgeBy_46 (lv_at hl 0 rfl) ?_
      exact hw_iretR (v := x9) hx hb hr hlocks hQ rfl (⟨x9, rfl⟩) dX12_edgeBy_48
    · have b16 : p1.toInt = 3 := hw_ieq c14
      refine lv_iload hx hb dX12_edgeBy_36 (lv_at hl 0 rfl) ?_
      refine lv_iload_n hx hb dX12_edgeBy_38 rfl (lv_at hl 3 rfl) ?_
      refine lv_iconst (v := 0) hx hb dX12_edgeBy_39 (by decide) ?_
      refine hw_cR (va_runS (As := [.int x9, .int p3, .int 0]) (rest := []) ⟨hx, hb, hml, hown, hts⟩ (k_X12_without l D G x9 p3 0 _) (va_cwS 3 hts gX12_edgeBy_X12_without rfl rfl rfl (by decide +kernel) ⟨Nat.le_of_ble_eq_true rfl, Nat.le_of_ble_eq_true rfl⟩) (hw_pS hH hK hST hS (by decide) (fun _ h => Or.inl h) trivial) rfl rfl hl.1 rfl (lv_room (Nat.le_of_ble_eq_true rfl)) dX12_edgeBy_40 ⟨Nat.le_of_ble_eq_true rfl, Nat.le_of_ble_eq_true rfl⟩) (fun v hp => ?_)
      obtain ⟨x17, rfl⟩ := hp
      refine lv_goto (tgt := 48) hx hb dX12_edgeBy_43 (by decide) ?_
      exact hw_iretR (v := x17) hx hb hr hlocks hQ rfl (⟨x17, rfl⟩) dX12_edgeBy_48
  · have b18 : p1.toInt = 1 := hw_ieq c12
    refine lv_iload hx hb dX12_edgeBy_21 (lv_at hl 0 rfl) ?_
    refine lv_iload_n hx hb dX12_edgeBy_23 rfl (lv_at hl 3 rfl) ?_
    refine lv_iconst (v := 1) hx hb dX12_edgeBy_24 (by decide) ?_
    refine hw_cR (va_runS (As := [.int x9, .int p3, .int 1]) (rest := []) ⟨hx, hb, hml, hown, hts⟩ (k_X12_without l D G x9 p3 1 _) (va_cwS 3 hts gX12_edgeBy_X12_without rfl rfl rfl (by decide +kernel) ⟨Nat.le_of_ble_eq_true rfl, Nat.le_of_ble_eq_true rfl⟩) (hw_pS hH hK hST hS (by decide) (fun _ h => Or.inl h) trivial) rfl rfl hl.1 rfl (lv_room (Nat.le_of_ble_eq_true rfl)) dX12_edgeBy_25 ⟨Nat.le_of_ble_eq_true rfl, Nat.le_of_ble_eq_true rfl⟩) (fun v hp => ?_)
    obtain ⟨x19, rfl⟩ := hp
    refine lv_goto (tgt := 48) hx hb dX12_edgeBy_28 (by decide) ?_
    exact hw_iretR (v := x19) hx hb hr hlocks hQ rfl (⟨x19, rfl⟩) dX12_edgeBy_48

set_option maxHeartbeats 4000000 in
set_option maxRecDepth 100000 in
theorem k_X12_edge (l : Launch) (D : hw_D) (G : Nat → Nat) (h0 : Nat) (p1 : Int32) (sz : Nat) (G0 : G h0 = 9) (h1x : 0 ≤ p1.toInt ∧ p1.toInt < 7) : Met l yX12_edge wsX12_edge ({ frames := 3, cells := 0, slots := 0, locals := 71 } : Room) (hw_PC D G [.ref h0, .int p1] sz (fun H => True)) (hw_QR (fun v => ∃ (r : Int32), v = .int r)) 0 0 (fun _ => False) := by
  refine hw_met (cc := cX12_edge) (maxL := 2) (ret := (some .int)) (plainFor_of_name (by decide)) rfl (Nat.le_of_ble_eq_true rfl) ?_
  intro p e s m args below meth c QQ ls hsz hx hb hml hr hts hown hlocks hnm hH hK hST hF hQ hl
  subst hsz
  have hS : va_S (hw_AW G [] s.heap.size) s.heap s.heap [] := va_S.rf
  have hl : lv_has ls 2 [(0, .ref h0), (1, .int p1)] := hl
  have u_11 : ∀ w ∈ u_ws RX12 TX12 45, w.before args s = true := fun w hw => hts w ((by decide +kernel : ∀ w ∈ u_ws RX12 TX12 45, w ∈ wsX12_edge) w hw)
  have fg_17_11 : hw_FG s args m 17 11 4 := ⟨RX12, "WardWalkersModel", RX12, TX12, 45, u_11, hown, rfl, by decide, (hts (.fieldLink RX12 17 "WardWalkersModel" "kinds" "[I") (by decide +kernel)), (fun _ h9 => h9)⟩
  have fg_20_11 : hw_FG s args m 20 11 5 := ⟨RX12, "WardWalkersModel", RX12, TX12, 45, u_11, hown, rfl, by decide, (hts (.fieldLink RX12 20 "WardWalkersModel" "keyCuts" "[I") (by decide +kernel)), (fun _ h9 => h9)⟩
  have fg_23_11 : hw_FG s args m 23 11 6 := ⟨RX12, "WardWalkersModel", RX12, TX12, 45, u_11, hown, rfl, by decide, (hts (.fieldLink RX12 23 "WardWalkersModel" "marks" "[I") (by decide +kernel)), (fun _ h9 => h9)⟩
  have fg_7_11 : hw_FG s args m 7 11 0 := ⟨RX12, "WardWalkersModel", RX12, TX12, 45, u_11, hown, rfl, by decide, (hts (.fieldLink RX12 7 "WardWalkersModel" "row" "[I") (by decide +kernel)), (fun _ h9 => h9)⟩
  refine lv_aload_n hx hb dX12_edge_0 rfl (lv_at hl 0 rfl) ?_
  obtain ⟨r1, ud_2, ky_3, lo_4, wk_5, dk_6, ln_7, sm_8, fi_9, be_10, rk_11, rl_12, rw_13, cl_14, dg_15, v16, R17, g18, g19, g20, g21, g22, g23, g24, g25, g26, g27, g28, g29⟩ := hH.oM G0
  refine hw_get hx hb fg_17_11 hK v16 rfl dX12_edge_1 ?_
  refine lv_iload_n hx hb dX12_edge_4 rfl (lv_at hl 1 rfl) ?_
  obtain ⟨f30, v31⟩ := hH.a44 (hw_RM_4 R17)
  refine hw_iald hx hb hK v31 (hw_in (by omega) (by omega)) dX12_edge_5 ?_
  refine lv_topi (fun x33 e34 => ?_)
  refine lv_aload_n hx hb dX12_edge_6 rfl (lv_at hl 0 rfl) ?_
  refine hw_get hx hb fg_20_11 hK v16 rfl dX12_edge_7 ?_
  refine lv_iload_n hx hb dX12_edge_10 rfl (lv_at hl 1 rfl) ?_
  obtain ⟨f35, v36⟩ := hH.a45 (hw_RM_5 R17)
  refine hw_iald hx hb hK v36 (hw_in (by omega) (by omega)) dX12_edge_11 ?_
  refine lv_topi (fun x38 e39 => ?_)
  refine lv_aload_n hx hb dX12_edge_12 rfl (lv_at hl 0 rfl) ?_
  refine hw_get hx hb fg_23_11 hK v16 rfl dX12_edge_13 ?_
  refine lv_iload_n hx hb dX12_edge_16 rfl (lv_at hl 1 rfl) ?_
  obtain ⟨f40, v41⟩ := hH.a46 (hw_RM_6 R17)
  refine hw_iald hx hb hK v41 (hw_in (by omega) (by omega)) dX12_edge_17 ?_
  refine lv_topi (fun x43 e44 => ?_)
  refine lv_aload_n hx hb dX12_edge_18 rfl (lv_at hl 0 rfl) ?_
  refine hw_get hx hb fg_7_11 hK v16 rfl dX12_edge_19 ?_
  refine lv_iconst (v := 3) hx hb dX12_edge_22 (by decide) ?_
  refine lv_iload_n hx hb dX12_edge_23 rfl (lv_at hl 1 rfl) ?_
  refine lv_iadd hx hb dX12_edge_24 ?_
  refine lv_topi (fun x45 e46 => ?_)
  have t47 : x45.toInt = 3 + p1.toInt := by rw [e46]; exact hw_add rfl rfl (by omega) (by omega)
  obtain ⟨f48, v49⟩ := hH.a40 (hw_RM_0 R17)
  refine hw_iald hx hb hK v49 (hw_in (by omega) (by omega)) dX12_edge_25 ?_
  refine lv_topi (fun x51 e52 => ?_)
  refine hw_cR (va_runS (As := [.int x33, .int x38, .int x43, .int x51]) (rest := []) ⟨hx, hb, hml, hown, hts⟩ (k_X12_edgeBy l D G x33 x38 x43 x51 _) (va_cwS 4 hts gX12_edge_X12_edgeBy rfl rfl rfl (by decide +kernel) ⟨Nat.le_of_ble_eq_true rfl, Nat.le_of_ble_eq_true rfl⟩) (hw_pS hH hK hST hS (by decide) (fun _ h => Or.inl h) trivial) rfl rfl hl.1 rfl (lv_room (Nat.le_of_ble_eq_true rfl)) dX12_edge_26 ⟨Nat.le_of_ble_eq_true rfl, Nat.le_of_ble_eq_true rfl⟩) (fun v hp => ?_)
  obtain ⟨x53, rfl⟩ := hp
  exact hw_iretR (v := x53) hx hb hr hlocks hQ rfl (⟨x53, rfl⟩) dX12_edge_29

set_option maxHeartbeats 4000000 in
set_option maxRecDepth 100000 in
theorem k_X12_roomBy (l : Launch) (D : hw_D) (G : Nat → Nat) (p1 : Int32) (p2 : Int32) (sz : Nat) : Met l yX12_roomBy wsX12_roomBy ({ frames := 0, cells := 0, slots := 0, locals := 0 } : Room) (hw_PC D G [.int p1, .int p2] sz (fun H => True)) (hw_QR (fun v => ∃ (r : Int32), v = .int r)) 0 0 (fun _ => False) := by
  refine hw_met (cc := cX12_roomBy) (maxL := 2) (ret := (some .int)) (plainFor_of_name (by decide)) rfl (Nat.le_of_ble_eq_true rfl) ?_
  intro p e s m args below meth c QQ ls hsz hx hb hml hr hts hown hlocks hnm hH hK hST hF hQ hl
  subst hsz
  have hS : va_S (hw_AW G [] s.heap.size) s.heap s.heap [] := va_S.rf
  have hl : lv_has ls 2 [(0, .int p1), (1, .int p2)] := hl
  refine lv_iload_n hx hb dX12_roomBy_0 rfl (lv_at hl 0 rfl) ?_
  refine lv_iconst (v := 1) hx hb dX12_roomBy_1 (by decide) ?_
  refine lv_icmp_ne (tgt := 11) hx hb dX12_roomBy_2 (by decide) (fun c1 => ?_) (fun c1 => ?_)
  · have b2 : p1.toInt ≠ 1 := hw_ine c1
    refine lv_iload_n hx hb dX12_roomBy_11 rfl (lv_at hl 0 rfl) ?_
    refine lv_iconst (v := 2) hx hb dX12_roomBy_12 (by decide) ?_
    refine lv_icmp_ne (tgt := 21) hx hb dX12_roomBy_13 (by decide) (fun c3 => ?_) (fun c3 => ?_)
    · have b4 : p1.toInt ≠ 2 := hw_ine c3
      refine lv_iload_n hx hb dX12_roomBy_21 rfl (lv_at hl 1 rfl) ?_
      exact hw_iretR (v := p2) hx hb hr hlocks hQ rfl (⟨p2, rfl⟩) dX12_roomBy_22
    · have b5 : p1.toInt = 2 := hw_ieq c3
      refine lv_bipush (v := 9) hx hb dX12_roomBy_16 (by decide) ?_
      refine lv_goto (tgt := 22) hx hb dX12_roomBy_18 (by decide) ?_
      exact hw_iretR (v := 9) hx hb hr hlocks hQ rfl (⟨9, rfl⟩) dX12_roomBy_22
  · have b6 : p1.toInt = 1 := hw_ieq c1
    refine lv_iload_n hx hb dX12_roomBy_5 rfl (lv_at hl 1 rfl) ?_
    refine lv_iconst (v := 1) hx hb dX12_roomBy_6 (by decide) ?_
    refine lv_iadd hx hb dX12_roomBy_7 ?_
    refine lv_topi (fun x7 e8 => ?_)
    refine lv_goto (tgt := 22) hx hb dX12_roomBy_8 (by decide) ?_
    exact hw_iretR (v := x7) hx hb hr hlocks hQ rfl (⟨x7, rfl⟩) dX12_roomBy_22

set_option maxHeartbeats 4000000 in
set_option maxRecDepth 100000 in
theorem k_X12_goesBy (l : Launch) (D : hw_D) (G : Nat → Nat) (h0 : Nat) (p1 : Int32) (p2 : Int32) (p3 : Int32) (sz : Nat) (G0 : G h0 = 9) (h3x : 0 ≤ p3.toInt ∧ p3.toInt < 7) : Met l yX12_goesBy wsX12_goesBy ({ frames := 1, cells := 0, slots := 0, locals := 22 } : Room) (hw_PC D G [.ref h0, .int p1, .int p2, .int p3] sz (fun H => True)) (hw_QR (fun v => (v = .int 1) ∨ (v = .int 0))) 0 0 (fun _ => False) := by
  refine hw_met (cc := cX12_goesBy) (maxL := 4) (ret := (some .boolean)) (plainFor_of_name (by decide)) rfl (Nat.le_of_ble_eq_true rfl) ?_
  intro p e s m args below meth c QQ ls hsz hx hb hml hr hts hown hlocks hnm hH hK hST hF hQ hl
  subst hsz
  have hS : va_S (hw_AW G [] s.heap.size) s.heap s.heap [] := va_S.rf
  have hl : lv_has ls 4 [(0, .ref h0), (1, .int p1), (2, .int p2), (3, .int p3)] := hl
  have u_11 : ∀ w ∈ u_ws RX12 TX12 45, w.before args s = true := fun w hw => hts w ((by decide +kernel : ∀ w ∈ u_ws RX12 TX12 45, w ∈ wsX12_goesBy) w hw)
  have fg_29_11 : hw_FG s args m 29 11 9 := ⟨RX12, "WardWalkersModel", RX12, TX12, 45, u_11, hown, rfl, by decide, (hts (.fieldLink RX12 29 "WardWalkersModel" "wanted" "[I") (by decide +kernel)), (fun _ h9 => h9)⟩
  have fg_32_11 : hw_FG s args m 32 11 10 := ⟨RX12, "WardWalkersModel", RX12, TX12, 45, u_11, hown, rfl, by decide, (hts (.fieldLink RX12 32 "WardWalkersModel" "plays" "[I") (by decide +kernel)), (fun _ h9 => h9)⟩
  refine lv_aload_n hx hb dX12_goesBy_0 rfl (lv_at hl 0 rfl) ?_
  obtain ⟨r1, ud_2, ky_3, lo_4, wk_5, dk_6, ln_7, sm_8, fi_9, be_10, rk_11, rl_12, rw_13, cl_14, dg_15, v16, R17, g18, g19, g20, g21, g22, g23, g24, g25, g26, g27, g28, g29⟩ := hH.oM G0
  refine hw_get hx hb fg_29_11 hK v16 rfl dX12_goesBy_1 ?_
  refine lv_iload_n hx hb dX12_goesBy_4 rfl (lv_at hl 3 rfl) ?_
  obtain ⟨f30, v31⟩ := hH.a49 (hw_RM_9 R17)
  refine hw_iald hx hb hK v31 (hw_in (by omega) (by omega)) dX12_goesBy_5 ?_
  refine lv_topi (fun x33 e34 => ?_)
  refine lv_iload_n hx hb dX12_goesBy_6 rfl (lv_at hl 2 rfl) ?_
  refine lv_iconst (v := (-1)) hx hb dX12_goesBy_7 (by decide) ?_
  refine lv_ixor hx hb dX12_goesBy_8 ?_
  refine lv_topi (fun x35 e36 => ?_)
  refine lv_iand hx hb dX12_goesBy_9 ?_
  refine lv_topi (fun x37 e38 => ?_)
  refine lv_if_ne (tgt := 43) hx hb dX12_goesBy_10 (by decide) (fun c39 => ?_) (fun c39 => ?_)
  · have b40 : x37.toInt ≠ 0 := hw_ine c39
    refine lv_iconst (v := 0) hx hb dX12_goesBy_43 (by decide) ?_
    exact hw_iretR (v := 0) hx hb hr hlocks hQ rfl (Or.inr (rfl)) dX12_goesBy_44
  · have b41 : x37.toInt = 0 := hw_ieq c39
    refine lv_iload_n hx hb dX12_goesBy_13 rfl (lv_at hl 2 rfl) ?_
    refine lv_aload_n hx hb dX12_goesBy_14 rfl (lv_at hl 0 rfl) ?_
    refine hw_get hx hb fg_29_11 hK v16 rfl dX12_goesBy_15 ?_
    refine lv_iload_n hx hb dX12_goesBy_18 rfl (lv_at hl 3 rfl) ?_
    obtain ⟨f42, v43⟩ := hH.a49 (hw_RM_9 R17)
    refine hw_iald hx hb hK v43 (hw_in (by omega) (by omega)) dX12_goesBy_19 ?_
    refine lv_topi (fun x45 e46 => ?_)
    refine lv_iconst (v := (-1)) hx hb dX12_goesBy_20 (by decide) ?_
    refine lv_ixor hx hb dX12_goesBy_21 ?_
    refine lv_topi (fun x47 e48 => ?_)
    refine lv_iand hx hb dX12_goesBy_22 ?_
    refine lv_topi (fun x49 e50 => ?_)
    refine hw_cR (va_runS (As := [.int x49]) (rest := []) ⟨hx, hb, hml, hown, hts⟩ (k_X12_bits l D G x49 _) (va_cwS 1 hts gX12_goesBy_X12_bits rfl rfl rfl (by decide +kernel) ⟨Nat.le_of_ble_eq_true rfl, Nat.le_of_ble_eq_true rfl⟩) (hw_pS hH hK hST hS (by decide) (fun _ h => Or.inl h) trivial) rfl rfl hl.1 rfl (lv_room (Nat.le_of_ble_eq_true rfl)) dX12_goesBy_23 ⟨Nat.le_of_ble_eq_true rfl, Nat.le_of_ble_eq_true rfl⟩) (fun v hp => ?_)
    obtain ⟨x51, rfl, g52, q53⟩ := hp
    refine lv_iload_n hx hb dX12_goesBy_26 rfl (lv_at hl 1 rfl) ?_
    refine lv_aload_n hx hb dX12_goesBy_27 rfl (lv_at hl 0 rfl) ?_
    refine hw_get hx hb fg_32_11 hK v16 rfl dX12_goesBy_28 ?_
    refine lv_iload_n hx hb dX12_goesBy_31 rfl (lv_at hl 3 rfl) ?_
    obtain ⟨f54, v55⟩ := hH.a50 (hw_RM_10 R17)
    refine hw_iald hx hb hK v55 (hw_in (by omega) (by omega)) dX12_goesBy_32 ?_
    refine lv_topi (fun x57 e58 => ?_)
    refine hw_cR (va_runS (As := [.int p1, .int x57]) (rest := [.int x51]) ⟨hx, hb, hml, hown, hts⟩ (k_X12_roomBy l D G p1 x57 _) (va_cwS 2 hts gX12_goesBy_X12_roomBy rfl rfl rfl (by decide +kernel) ⟨Nat.le_of_ble_eq_true rfl, Nat.le_of_ble_eq_true rfl⟩) (hw_pS hH hK hST hS (by decide) (fun _ h => Or.inl h) trivial) rfl rfl hl.1 rfl (lv_room (Nat.le_of_ble_eq_true rfl)) dX12_goesBy_33 ⟨Nat.le_of_ble_eq_true rfl, Nat.le_of_ble_eq_true rfl⟩) (fun v hp => ?_)
    obtain ⟨x59, rfl⟩ := hp
    refine lv_icmp_gt (tgt := 43) hx hb dX12_goesBy_36 (by decide) (fun c60 => ?_) (fun c60 => ?_)
    · have b61 : x59.toInt < x51.toInt := hw_ilt c60
      refine lv_iconst (v := 0) hx hb dX12_goesBy_43 (by decide) ?_
      exact hw_iretR (v := 0) hx hb hr hlocks hQ rfl (Or.inr (rfl)) dX12_goesBy_44
    · have b62 : x51.toInt ≤ x59.toInt := hw_inlt c60
      refine lv_iconst (v := 1) hx hb dX12_goesBy_39 (by decide) ?_
      refine lv_goto (tgt := 44) hx hb dX12_goesBy_40 (by decide) ?_
      exact hw_iretR (v := 1) hx hb hr hlocks hQ rfl (Or.inl rfl) dX12_goesBy_44

set_option maxHeartbeats 4000000 in
set_option maxRecDepth 100000 in
theorem k_X12_doesGo (l : Launch) (D : hw_D) (G : Nat → Nat) (h0 : Nat) (p1 : Int32) (p2 : Int32) (sz : Nat) (G0 : G h0 = 9) (h1x : 0 ≤ p1.toInt ∧ p1.toInt < 7) (h2x : 0 ≤ p2.toInt ∧ p2.toInt < 7) : Met l yX12_doesGo wsX12_doesGo ({ frames := 4, cells := 0, slots := 0, locals := 92 } : Room) (hw_PC D G [.ref h0, .int p1, .int p2] sz (fun H => True)) (hw_QR (fun v => (v = .int 1) ∨ (v = .int 0))) 0 0 (fun _ => False) := by
  refine hw_met (cc := cX12_doesGo) (maxL := 3) (ret := (some .boolean)) (plainFor_of_name (by decide)) rfl (Nat.le_of_ble_eq_true rfl) ?_
  intro p e s m args below meth c QQ ls hsz hx hb hml hr hts hown hlocks hnm hH hK hST hF hQ hl
  subst hsz
  have hS : va_S (hw_AW G [] s.heap.size) s.heap s.heap [] := va_S.rf
  have hl : lv_has ls 3 [(0, .ref h0), (1, .int p1), (2, .int p2)] := hl
  have u_11 : ∀ w ∈ u_ws RX12 TX12 45, w.before args s = true := fun w hw => hts w ((by decide +kernel : ∀ w ∈ u_ws RX12 TX12 45, w ∈ wsX12_doesGo) w hw)
  have fg_17_11 : hw_FG s args m 17 11 4 := ⟨RX12, "WardWalkersModel", RX12, TX12, 45, u_11, hown, rfl, by decide, (hts (.fieldLink RX12 17 "WardWalkersModel" "kinds" "[I") (by decide +kernel)), (fun _ h9 => h9)⟩
  refine lv_aload_n hx hb dX12_doesGo_0 rfl (lv_at hl 0 rfl) ?_
  refine lv_aload_n hx hb dX12_doesGo_1 rfl (lv_at hl 0 rfl) ?_
  obtain ⟨r1, ud_2, ky_3, lo_4, wk_5, dk_6, ln_7, sm_8, fi_9, be_10, rk_11, rl_12, rw_13, cl_14, dg_15, v16, R17, g18, g19, g20, g21, g22, g23, g24, g25, g26, g27, g28, g29⟩ := hH.oM G0
  refine hw_get hx hb fg_17_11 hK v16 rfl dX12_doesGo_2 ?_
  refine lv_iload_n hx hb dX12_doesGo_5 rfl (lv_at hl 1 rfl) ?_
  obtain ⟨f30, v31⟩ := hH.a44 (hw_RM_4 R17)
  refine hw_iald hx hb hK v31 (hw_in (by omega) (by omega)) dX12_doesGo_6 ?_
  refine lv_topi (fun x33 e34 => ?_)
  refine lv_aload_n hx hb dX12_doesGo_7 rfl (lv_at hl 0 rfl) ?_
  refine lv_iload_n hx hb dX12_doesGo_8 rfl (lv_at hl 1 rfl) ?_
  refine hw_cR (va_runV (As := [.int p1]) (rest := [.int x33, .ref h0]) ⟨hx, hb, hml, hown, hts⟩ (k_X12_edge l D G h0 p1 _ G0 (by first | assumption | decide | omega)) (cwV 1 hts gX12_doesGo_X12_edge rfl rfl rfl (by decide +kernel) ⟨Nat.le_of_ble_eq_true rfl, Nat.le_of_ble_eq_true rfl⟩) (hw_pV (hw_rc (q := (RX12, TX12, 45)) hK v16 rfl) hH hK hST hS (by decide) (fun _ h => Or.inl h) trivial) rfl rfl hl.1 rfl (lv_room (Nat.le_of_ble_eq_true rfl)) dX12_doesGo_9 ⟨Nat.le_of_ble_eq_true rfl, Nat.le_of_ble_eq_true rfl⟩) (fun v hp => ?_)
  obtain ⟨x35, rfl⟩ := hp
  refine lv_iload_n hx hb dX12_doesGo_12 rfl (lv_at hl 2 rfl) ?_
  refine hw_cR (va_runV (As := [.int x33, .int x35, .int p2]) (rest := []) ⟨hx, hb, hml, hown, hts⟩ (k_X12_goesBy l D G h0 x33 x35 p2 _ G0 (by first | assumption | decide | omega)) (cwV 3 hts gX12_doesGo_X12_goesBy rfl rfl rfl (by decide +kernel) ⟨Nat.le_of_ble_eq_true rfl, Nat.le_of_ble_eq_true rfl⟩) (hw_pV (hw_rc (q := (RX12, TX12, 45)) hK v16 rfl) hH hK hST hS (by decide) (fun _ h => Or.inl h) trivial) rfl rfl hl.1 rfl (lv_room (Nat.le_of_ble_eq_true rfl)) dX12_doesGo_13 ⟨Nat.le_of_ble_eq_true rfl, Nat.le_of_ble_eq_true rfl⟩) (fun v hp => ?_)
  rcases hp with rfl | rfl
  · exact hw_iretR (v := 1) hx hb hr hlocks hQ rfl (Or.inl rfl) dX12_doesGo_16
  · exact hw_iretR (v := 0) hx hb hr hlocks hQ rfl (Or.inr (rfl)) dX12_doesGo_16

set_option maxHeartbeats 4000000 in
set_option maxRecDepth 100000 in
theorem k_X12_isBroken (l : Launch) (D : hw_D) (G : Nat → Nat) (h0 : Nat) (p1 : Int32) (sz : Nat) (G0 : G h0 = 9) (h1x : 0 ≤ p1.toInt ∧ p1.toInt < 7) : Met l yX12_isBroken wsX12_isBroken ({ frames := 0, cells := 0, slots := 0, locals := 0 } : Room) (hw_PC D G [.ref h0, .int p1] sz (fun H => True)) (hw_QR (fun v => (v = .int 1) ∨ (v = .int 0))) 0 0 (fun _ => False) := by
  refine hw_met (cc := cX12_isBroken) (maxL := 2) (ret := (some .boolean)) (plainFor_of_name (by decide)) rfl (Nat.le_of_ble_eq_true rfl) ?_
  intro p e s m args below meth c QQ ls hsz hx hb hml hr hts hown hlocks hnm hH hK hST hF hQ hl
  subst hsz
  have hS : va_S (hw_AW G [] s.heap.size) s.heap s.heap [] := va_S.rf
  have hl : lv_has ls 2 [(0, .ref h0), (1, .int p1)] := hl
  have u_11 : ∀ w ∈ u_ws RX12 TX12 45, w.before args s = true := fun w hw => hts w ((by decide +kernel : ∀ w ∈ u_ws RX12 TX12 45, w ∈ wsX12_isBroken) w hw)
  have fg_7_11 : hw_FG s args m 7 11 0 := ⟨RX12, "WardWalkersModel", RX12, TX12, 45, u_11, hown, rfl, by decide, (hts (.fieldLink RX12 7 "WardWalkersModel" "row" "[I") (by decide +kernel)), (fun _ h9 => h9)⟩
  refine lv_aload_n hx hb dX12_isBroken_0 rfl (lv_at hl 0 rfl) ?_
  obtain ⟨r1, ud_2, ky_3, lo_4, wk_5, dk_6, ln_7, sm_8, fi_9, be_10, rk_11, rl_12, rw_13, cl_14, dg_15, v16, R17, g18, g19, g20, g21, g22, g23, g24, g25, g26, g27, g28, g29⟩ := hH.oM G0
  refine hw_get hx hb fg_7_11 hK v16 rfl dX12_isBroken_1 ?_
  refine lv_bipush (v := 10) hx hb dX12_isBroken_4 (by decide) ?_
  refine lv_iload_n hx hb dX12_isBroken_6 rfl (lv_at hl 1 rfl) ?_
  refine lv_iadd hx hb dX12_isBroken_7 ?_
  refine lv_topi (fun x30 e31 => ?_)
  have t32 : x30.toInt = 10 + p1.toInt := by rw [e31]; exact hw_add rfl rfl (by omega) (by omega)
  obtain ⟨f33, v34⟩ := hH.a40 (hw_RM_0 R17)
  refine hw_iald hx hb hK v34 (hw_in (by omega) (by omega)) dX12_isBroken_8 ?_
  refine lv_topi (fun x36 e37 => ?_)
  refine lv_iconst (v := 3) hx hb dX12_isBroken_9 (by decide) ?_
  refine lv_icmp_ne (tgt := 17) hx hb dX12_isBroken_10 (by decide) (fun c38 => ?_) (fun c38 => ?_)
  · have b39 : x36.toInt ≠ 3 := hw_ine c38
    refine lv_iconst (v := 0) hx hb dX12_isBroken_17 (by decide) ?_
    exact hw_iretR (v := 0) hx hb hr hlocks hQ rfl (Or.inr (rfl)) dX12_isBroken_18
  · have b40 : x36.toInt = 3 := hw_ieq c38
    refine lv_iconst (v := 1) hx hb dX12_isBroken_13 (by decide) ?_
    refine lv_goto (tgt := 18) hx hb dX12_isBroken_14 (by decide) ?_
    exact hw_iretR (v := 1) hx hb hr hlocks hQ rfl (Or.inl rfl) dX12_isBroken_18

set_option maxHeartbeats 4000000 in
set_option maxRecDepth 100000 in
theorem k_X12_isOpen (l : Launch) (D : hw_D) (G : Nat → Nat) (h0 : Nat) (p1 : Int32) (sz : Nat) (G0 : G h0 = 9) : Met l yX12_isOpen wsX12_isOpen ({ frames := 1, cells := 0, slots := 0, locals := 21 } : Room) (hw_PC D G [.ref h0, .int p1] sz (fun H => True)) (hw_QR (fun v => (v = .int 1) ∨ (v = .int 0))) 0 0 (fun _ => False) := by
  refine hw_met (cc := cX12_isOpen) (maxL := 2) (ret := (some .boolean)) (plainFor_of_name (by decide)) rfl (Nat.le_of_ble_eq_true rfl) ?_
  intro p e s m args below meth c QQ ls hsz hx hb hml hr hts hown hlocks hnm hH hK hST hF hQ hl
  subst hsz
  have hS : va_S (hw_AW G [] s.heap.size) s.heap s.heap [] := va_S.rf
  have hl : lv_has ls 2 [(0, .ref h0), (1, .int p1)] := hl
  have u_11 : ∀ w ∈ u_ws RX12 TX12 45, w.before args s = true := fun w hw => hts w ((by decide +kernel : ∀ w ∈ u_ws RX12 TX12 45, w ∈ wsX12_isOpen) w hw)
  have fg_7_11 : hw_FG s args m 7 11 0 := ⟨RX12, "WardWalkersModel", RX12, TX12, 45, u_11, hown, rfl, by decide, (hts (.fieldLink RX12 7 "WardWalkersModel" "row" "[I") (by decide +kernel)), (fun _ h9 => h9)⟩
  refine lv_aload_n hx hb dX12_isOpen_0 rfl (lv_at hl 0 rfl) ?_
  obtain ⟨r1, ud_2, ky_3, lo_4, wk_5, dk_6, ln_7, sm_8, fi_9, be_10, rk_11, rl_12, rw_13, cl_14, dg_15, v16, R17, g18, g19, g20, g21, g22, g23, g24, g25, g26, g27, g28, g29⟩ := hH.oM G0
  refine hw_get hx hb fg_7_11 hK v16 rfl dX12_isOpen_1 ?_
  refine lv_iconst (v := 2) hx hb dX12_isOpen_4 (by decide) ?_
  obtain ⟨f30, v31⟩ := hH.a40 (hw_RM_0 R17)
  refine hw_iald hx hb hK v31 (hw_in (x := 2) (by decide) (by decide)) dX12_isOpen_5 ?_
  refine lv_topi (fun x33 e34 => ?_)
  refine lv_iload_n hx hb dX12_isOpen_6 rfl (lv_at hl 1 rfl) ?_
  refine hw_cR (va_runS (As := [.int x33, .int p1]) (rest := []) ⟨hx, hb, hml, hown, hts⟩ (k_X12_has l D G x33 p1 _) (va_cwS 2 hts gX12_isOpen_X12_has rfl rfl rfl (by decide +kernel) ⟨Nat.le_of_ble_eq_true rfl, Nat.le_of_ble_eq_true rfl⟩) (hw_pS hH hK hST hS (by decide) (fun _ h => Or.inl h) trivial) rfl rfl hl.1 rfl (lv_room (Nat.le_of_ble_eq_true rfl)) dX12_isOpen_7 ⟨Nat.le_of_ble_eq_true rfl, Nat.le_of_ble_eq_true rfl⟩) (fun v hp => ?_)
  rcases hp with rfl | rfl
  · exact hw_iretR (v := 1) hx hb hr hlocks hQ rfl (Or.inl rfl) dX12_isOpen_10
  · exact hw_iretR (v := 0) hx hb hr hlocks hQ rfl (Or.inr (rfl)) dX12_isOpen_10

set_option maxHeartbeats 4000000 in
set_option maxRecDepth 100000 in
theorem k_X12_key (l : Launch) (D : hw_D) (G : Nat → Nat) (h0 : Nat) (p1 : Int32) (p2 : Int32) (sz : Nat) (rm : Nat → Nat) (ud_m ky_m lo_m wk_m dk_m ln_m sm_m fi_m be_m rk_m rl_m rw_m cl_m dg_m : Int32) (G0 : G h0 = 9) (Rm : hw_RM G rm) (gud_m : 0 ≤ ud_m.toInt ∧ ud_m.toInt ≤ 8) (gky_m : 0 ≤ ky_m.toInt ∧ ky_m.toInt ≤ 7) (glo_m : 0 ≤ lo_m.toInt ∧ lo_m.toInt ≤ 7) (gwk_m : 0 ≤ wk_m.toInt ∧ wk_m.toInt ≤ 3) (gln_m : 0 ≤ ln_m.toInt ∧ ln_m.toInt ≤ 200) (gsm_m : 0 ≤ sm_m.toInt ∧ sm_m.toInt ≤ 6) (gfi_m : 0 ≤ fi_m.toInt ∧ fi_m.toInt ≤ 200) (gbe_m : 0 ≤ be_m.toInt ∧ be_m.toInt ≤ 200) (grk_m : 0 ≤ rk_m.toInt ∧ rk_m.toInt ≤ 7) (grl_m : 0 ≤ rl_m.toInt ∧ rl_m.toInt ≤ 7) (grw_m : 0 ≤ rw_m.toInt ∧ rw_m.toInt ≤ 3) (gdg_m : 0 ≤ dg_m.toInt ∧ dg_m.toInt ≤ 1) : Met l yX12_key wsX12_key ({ frames := 4, cells := 0, slots := 0, locals := 92 } : Room) (hw_PC D G [.ref h0, .int p1, .int p2] sz (fun H => va_at D.1 vwCl (h0, .inr (11, hw_LM rm ud_m ky_m lo_m wk_m dk_m ln_m sm_m fi_m be_m rk_m rl_m rw_m cl_m dg_m)) H)) (hw_QR (fun v => ∃ (r : Int32), v = .int r ∧ (ky_m.toInt = 0 → r.toInt = -2))) 0 0 (fun _ => False) := by
  refine hw_met (cc := cX12_key) (maxL := 3) (ret := (some .int)) (plainFor_of_name (by decide)) rfl (Nat.le_of_ble_eq_true rfl) ?_
  intro p e s m args below meth c QQ ls hsz hx hb hml hr hts hown hlocks hnm hH hK hST hF hQ hl
  subst hsz
  have hS : va_S (hw_AW G [] s.heap.size) s.heap s.heap [] := va_S.rf
  have vm := hF
  have hl : lv_has ls 3 [(0, .ref h0), (1, .int p1), (2, .int p2)] := hl
  have u_11 : ∀ w ∈ u_ws RX12 TX12 45, w.before args s = true := fun w hw => hts w ((by decide +kernel : ∀ w ∈ u_ws RX12 TX12 45, w ∈ wsX12_key) w hw)
  have fg_17_11 : hw_FG s args m 17 11 4 := ⟨RX12, "WardWalkersModel", RX12, TX12, 45, u_11, hown, rfl, by decide, (hts (.fieldLink RX12 17 "WardWalkersModel" "kinds" "[I") (by decide +kernel)), (fun _ h9 => h9)⟩
  have fg_20_11 : hw_FG s args m 20 11 5 := ⟨RX12, "WardWalkersModel", RX12, TX12, 45, u_11, hown, rfl, by decide, (hts (.fieldLink RX12 20 "WardWalkersModel" "keyCuts" "[I") (by decide +kernel)), (fun _ h9 => h9)⟩
  have fg_23_11 : hw_FG s args m 23 11 6 := ⟨RX12, "WardWalkersModel", RX12, TX12, 45, u_11, hown, rfl, by decide, (hts (.fieldLink RX12 23 "WardWalkersModel" "marks" "[I") (by decide +kernel)), (fun _ h9 => h9)⟩
  have fg_7_11 : hw_FG s args m 7 11 0 := ⟨RX12, "WardWalkersModel", RX12, TX12, 45, u_11, hown, rfl, by decide, (hts (.fieldLink RX12 7 "WardWalkersModel" "row" "[I") (by decide +kernel)), (fun _ h9 => h9)⟩
  refine lv_aload_n hx hb dX12_key_0 rfl (lv_at hl 0 rfl) ?_
  refine lv_iload_n hx hb dX12_key_1 rfl (lv_at hl 1 rfl) ?_
  refine hw_cR (va_runV (As := [.int p1]) (rest := []) ⟨hx, hb, hml, hown, hts⟩ (k_X12_isKey l D G h0 p1 _ rm ud_m ky_m lo_m wk_m dk_m ln_m sm_m fi_m be_m rk_m rl_m rw_m cl_m dg_m G0 Rm ⟨by first | decide | omega, by first | decide | omega⟩ ⟨by first | decide | omega, by first | decide | omega⟩ ⟨by first | decide | omega, by first | decide | omega⟩ ⟨by first | decide | omega, by first | decide | omega⟩ ⟨by first | decide | omega, by first | decide | omega⟩ ⟨by first | decide | omega, by first | decide | omega⟩ ⟨by first | decide | omega, by first | decide | omega⟩ ⟨by first | decide | omega, by first | decide | omega⟩ ⟨by first | decide | omega, by first | decide | omega⟩ ⟨by first | decide | omega, by first | decide | omega⟩ ⟨by first | decide | omega, by first | decide | omega⟩ ⟨by first | decide | omega, by first | decide | omega⟩) (cwV 1 hts gX12_key_X12_isKey rfl rfl rfl (by decide +kernel) ⟨Nat.le_of_ble_eq_true rfl, Nat.le_of_ble_eq_true rfl⟩) (hw_pV (hw_rc (q := (RX12, TX12, 45)) hK vm rfl) hH hK hST hS (by decide) (fun _ h => Or.inl h) vm) rfl rfl hl.1 rfl (lv_room (Nat.le_of_ble_eq_true rfl)) dX12_key_2 ⟨Nat.le_of_ble_eq_true rfl, Nat.le_of_ble_eq_true rfl⟩) (fun v hp => ?_)
  rcases hp with ⟨rfl, q1⟩ | ⟨rfl, q2⟩
  · refine lv_if_ne (tgt := 11) hx hb dX12_key_5 (by decide) (fun c3 => ?_) (fun c3 => ?_)
    · refine lv_iload_n hx hb dX12_key_11 rfl (lv_at hl 2 rfl) ?_
      by_cases w4 : p2.toInt < 0 ∨ 6 < p2.toInt
      · refine lv_tableOut (tgt := 116) hx hb dX12_key_12 w4 (by decide) ?_
        refine lv_bipush (v := (-3)) hx hb dX12_key_116 (by decide) ?_
        exact hw_iretR (v := (-3)) hx hb hr hlocks hQ rfl (⟨(-3), rfl, (by first | rfl | trivial | assumption | omega | (intros; first | rfl | assumption | omega | (exfalso; omega)))⟩) dX12_key_118
      · rcases (show p2.toInt = 0 ∨ p2.toInt = 1 ∨ p2.toInt = 2 ∨ p2.toInt = 3 ∨ p2.toInt = 4 ∨ p2.toInt = 5 ∨ p2.toInt = 6 by omega) with w4 | w4 | w4 | w4 | w4 | w4 | w4
        · refine lv_tableIn (tgt := 56) (off := 44) hx hb dX12_key_12 (by omega) (by omega) (by rw [w4]; rfl) (by decide) ?_
          refine lv_aload_n hx hb dX12_key_56 rfl (lv_at hl 0 rfl) ?_
          refine hw_get hx hb fg_17_11 hK vm rfl dX12_key_57 ?_
          refine lv_iload_n hx hb dX12_key_60 rfl (lv_at hl 1 rfl) ?_
          obtain ⟨f5, v6⟩ := hH.a44 (hw_RM_4 Rm)
          refine hw_iald hx hb hK v6 (hw_in (by omega) (by omega)) dX12_key_61 ?_
          refine lv_topi (fun x8 e9 => ?_)
          exact hw_iretR (v := x8) hx hb hr hlocks hQ rfl (⟨x8, rfl, (by first | rfl | trivial | assumption | omega | (intros; first | rfl | assumption | omega | (exfalso; omega)))⟩) dX12_key_62
        · refine lv_tableIn (tgt := 63) (off := 51) hx hb dX12_key_12 (by omega) (by omega) (by rw [w4]; rfl) (by decide) ?_
          refine lv_aload_n hx hb dX12_key_63 rfl (lv_at hl 0 rfl) ?_
          refine hw_get hx hb fg_20_11 hK vm rfl dX12_key_64 ?_
          refine lv_iload_n hx hb dX12_key_67 rfl (lv_at hl 1 rfl) ?_
          obtain ⟨f10, v11⟩ := hH.a45 (hw_RM_5 Rm)
          refine hw_iald hx hb hK v11 (hw_in (by omega) (by omega)) dX12_key_68 ?_
          refine lv_topi (fun x13 e14 => ?_)
          exact hw_iretR (v := x13) hx hb hr hlocks hQ rfl (⟨x13, rfl, (by first | rfl | trivial | assumption | omega | (intros; first | rfl | assumption | omega | (exfalso; omega)))⟩) dX12_key_69
        · refine lv_tableIn (tgt := 70) (off := 58) hx hb dX12_key_12 (by omega) (by omega) (by rw [w4]; rfl) (by decide) ?_
          refine lv_aload_n hx hb dX12_key_70 rfl (lv_at hl 0 rfl) ?_
          refine hw_get hx hb fg_23_11 hK vm rfl dX12_key_71 ?_
          refine lv_iload_n hx hb dX12_key_74 rfl (lv_at hl 1 rfl) ?_
          obtain ⟨f15, v16⟩ := hH.a46 (hw_RM_6 Rm)
          refine hw_iald hx hb hK v16 (hw_in (by omega) (by omega)) dX12_key_75 ?_
          refine lv_topi (fun x18 e19 => ?_)
          exact hw_iretR (v := x18) hx hb hr hlocks hQ rfl (⟨x18, rfl, (by first | rfl | trivial | assumption | omega | (intros; first | rfl | assumption | omega | (exfalso; omega)))⟩) dX12_key_76
        · refine lv_tableIn (tgt := 77) (off := 65) hx hb dX12_key_12 (by omega) (by omega) (by rw [w4]; rfl) (by decide) ?_
          refine lv_aload_n hx hb dX12_key_77 rfl (lv_at hl 0 rfl) ?_
          refine hw_get hx hb fg_7_11 hK vm rfl dX12_key_78 ?_
          refine lv_iconst (v := 3) hx hb dX12_key_81 (by decide) ?_
          refine lv_iload_n hx hb dX12_key_82 rfl (lv_at hl 1 rfl) ?_
          refine lv_iadd hx hb dX12_key_83 ?_
          refine lv_topi (fun x20 e21 => ?_)
          have t22 : x20.toInt = 3 + p1.toInt := by rw [e21]; exact hw_add rfl rfl (by omega) (by omega)
          obtain ⟨f23, v24⟩ := hH.a40 (hw_RM_0 Rm)
          refine hw_iald hx hb hK v24 (hw_in (by omega) (by omega)) dX12_key_84 ?_
          refine lv_topi (fun x26 e27 => ?_)
          exact hw_iretR (v := x26) hx hb hr hlocks hQ rfl (⟨x26, rfl, (by first | rfl | trivial | assumption | omega | (intros; first | rfl | assumption | omega | (exfalso; omega)))⟩) dX12_key_85
        · refine lv_tableIn (tgt := 86) (off := 74) hx hb dX12_key_12 (by omega) (by omega) (by rw [w4]; rfl) (by decide) ?_
          refine lv_aload_n hx hb dX12_key_86 rfl (lv_at hl 0 rfl) ?_
          refine hw_get hx hb fg_7_11 hK vm rfl dX12_key_87 ?_
          refine lv_bipush (v := 10) hx hb dX12_key_90 (by decide) ?_
          refine lv_iload_n hx hb dX12_key_92 rfl (lv_at hl 1 rfl) ?_
          refine lv_iadd hx hb dX12_key_93 ?_
          refine lv_topi (fun x28 e29 => ?_)
          have t30 : x28.toInt = 10 + p1.toInt := by rw [e29]; exact hw_add rfl rfl (by omega) (by omega)
          obtain ⟨f31, v32⟩ := hH.a40 (hw_RM_0 Rm)
          refine hw_iald hx hb hK v32 (hw_in (by omega) (by omega)) dX12_key_94 ?_
          refine lv_topi (fun x34 e35 => ?_)
          exact hw_iretR (v := x34) hx hb hr hlocks hQ rfl (⟨x34, rfl, (by first | rfl | trivial | assumption | omega | (intros; first | rfl | assumption | omega | (exfalso; omega)))⟩) dX12_key_95
        · refine lv_tableIn (tgt := 96) (off := 84) hx hb dX12_key_12 (by omega) (by omega) (by rw [w4]; rfl) (by decide) ?_
          refine lv_aload_n hx hb dX12_key_96 rfl (lv_at hl 0 rfl) ?_
          refine lv_iload_n hx hb dX12_key_97 rfl (lv_at hl 1 rfl) ?_
          refine hw_cR (va_runV (As := [.int p1]) (rest := []) ⟨hx, hb, hml, hown, hts⟩ (k_X12_edge l D G h0 p1 _ G0 (by first | assumption | decide | omega)) (cwV 1 hts gX12_key_X12_edge rfl rfl rfl (by decide +kernel) ⟨Nat.le_of_ble_eq_true rfl, Nat.le_of_ble_eq_true rfl⟩) (hw_pV (hw_rc (q := (RX12, TX12, 45)) hK vm rfl) hH hK hST hS (by decide) (fun _ h => Or.inl h) trivial) rfl rfl hl.1 rfl (lv_room (Nat.le_of_ble_eq_true rfl)) dX12_key_98 ⟨Nat.le_of_ble_eq_true rfl, Nat.le_of_ble_eq_true rfl⟩) (fun v hp => ?_)
          obtain ⟨x36, rfl⟩ := hp
          exact hw_iretR (v := x36) hx hb hr hlocks hQ rfl (⟨x36, rfl, (by first | rfl | trivial | assumption | omega | (intros; first | rfl | assumption | omega | (exfalso; omega)))⟩) dX12_key_101
        · refine lv_tableIn (tgt := 102) (off := 90) hx hb dX12_key_12 (by omega) (by omega) (by rw [w4]; rfl) (by decide) ?_
          refine lv_aload_n hx hb dX12_key_102 rfl (lv_at hl 0 rfl) ?_
          refine lv_iload_n hx hb dX12_key_103 rfl (lv_at hl 1 rfl) ?_
          refine hw_cR (va_runV (As := [.int p1]) (rest := []) ⟨hx, hb, hml, hown, hts⟩ (k_X12_isBroken l D G h0 p1 _ G0 (by first | assumption | decide | omega)) (cwV 1 hts gX12_key_X12_isBroken rfl rfl rfl (by decide +kernel) ⟨Nat.le_of_ble_eq_true rfl, Nat.le_of_ble_eq_true rfl⟩) (hw_pV (hw_rc (q := (RX12, TX12, 45)) hK vm rfl) hH hK hST hS (by decide) (fun _ h => Or.inl h) trivial) rfl rfl hl.1 rfl (lv_room (Nat.le_of_ble_eq_true rfl)) dX12_key_104 ⟨Nat.le_of_ble_eq_true rfl, Nat.le_of_ble_eq_true rfl⟩) (fun v hp => ?_)
          rcases hp with rfl | rfl
          · refine lv_if_eq (tgt := 114) hx hb dX12_key_107 (by decide) (fun c37 => ?_) (fun c37 => ?_)
            · exact absurd c37 (by decide)
            · refine lv_iconst (v := 1) hx hb dX12_key_110 (by decide) ?_
              refine lv_goto (tgt := 115) hx hb dX12_key_111 (by decide) ?_
              exact hw_iretR (v := 1) hx hb hr hlocks hQ rfl (⟨1, rfl, (by first | rfl | trivial | assumption | omega | (intros; first | rfl | assumption | omega | (exfalso; omega)))⟩) dX12_key_115
          · refine lv_if_eq (tgt := 114) hx hb dX12_key_107 (by decide) (fun c38 => ?_) (fun c38 => ?_)
            · refine lv_iconst (v := 0) hx hb dX12_key_114 (by decide) ?_
              exact hw_iretR (v := 0) hx hb hr hlocks hQ rfl (⟨0, rfl, (by first | rfl | trivial | assumption | omega | (intros; first | rfl | assumption | omega | (exfalso; omega)))⟩) dX12_key_115
            · exact absurd c38 (by decide)
    · exact absurd c3 (by decide)
  · refine lv_if_ne (tgt := 11) hx hb dX12_key_5 (by decide) (fun c39 => ?_) (fun c39 => ?_)
    · exact absurd c39 (by decide)
    · refine lv_bipush (v := (-2)) hx hb dX12_key_8 (by decide) ?_
      exact hw_iretR (v := (-2)) hx hb hr hlocks hQ rfl (⟨(-2), rfl, (by first | rfl | trivial | assumption | omega | (intros; first | rfl | assumption | omega | (exfalso; omega)))⟩) dX12_key_10

set_option maxHeartbeats 4000000 in
set_option maxRecDepth 100000 in
theorem k_X12_lock (l : Launch) (D : hw_D) (G : Nat → Nat) (h0 : Nat) (p1 : Int32) (p2 : Int32) (sz : Nat) (rm : Nat → Nat) (ud_m ky_m lo_m wk_m dk_m ln_m sm_m fi_m be_m rk_m rl_m rw_m cl_m dg_m : Int32) (G0 : G h0 = 9) (Rm : hw_RM G rm) (gud_m : 0 ≤ ud_m.toInt ∧ ud_m.toInt ≤ 8) (gky_m : 0 ≤ ky_m.toInt ∧ ky_m.toInt ≤ 7) (glo_m : 0 ≤ lo_m.toInt ∧ lo_m.toInt ≤ 7) (gwk_m : 0 ≤ wk_m.toInt ∧ wk_m.toInt ≤ 3) (gln_m : 0 ≤ ln_m.toInt ∧ ln_m.toInt ≤ 200) (gsm_m : 0 ≤ sm_m.toInt ∧ sm_m.toInt ≤ 6) (gfi_m : 0 ≤ fi_m.toInt ∧ fi_m.toInt ≤ 200) (gbe_m : 0 ≤ be_m.toInt ∧ be_m.toInt ≤ 200) (grk_m : 0 ≤ rk_m.toInt ∧ rk_m.toInt ≤ 7) (grl_m : 0 ≤ rl_m.toInt ∧ rl_m.toInt ≤ 7) (grw_m : 0 ≤ rw_m.toInt ∧ rw_m.toInt ≤ 3) (gdg_m : 0 ≤ dg_m.toInt ∧ dg_m.toInt ≤ 1) : Met l yX12_lock wsX12_lock ({ frames := 2, cells := 0, slots := 0, locals := 46 } : Room) (hw_PC D G [.ref h0, .int p1, .int p2] sz (fun H => va_at D.1 vwCl (h0, .inr (11, hw_LM rm ud_m ky_m lo_m wk_m dk_m ln_m sm_m fi_m be_m rk_m rl_m rw_m cl_m dg_m)) H)) (hw_QR (fun v => ∃ (r : Int32), v = .int r ∧ (lo_m.toInt = 0 → r.toInt = -2))) 0 0 (fun _ => False) := by
  refine hw_met (cc := cX12_lock) (maxL := 3) (ret := (some .int)) (plainFor_of_name (by decide)) rfl (Nat.le_of_ble_eq_true rfl) ?_
  intro p e s m args below meth c QQ ls hsz hx hb hml hr hts hown hlocks hnm hH hK hST hF hQ hl
  subst hsz
  have hS : va_S (hw_AW G [] s.heap.size) s.heap s.heap [] := va_S.rf
  have vm := hF
  have hl : lv_has ls 3 [(0, .ref h0), (1, .int p1), (2, .int p2)] := hl
  have u_11 : ∀ w ∈ u_ws RX12 TX12 45, w.before args s = true := fun w hw => hts w ((by decide +kernel : ∀ w ∈ u_ws RX12 TX12 45, w ∈ wsX12_lock) w hw)
  have fg_26_11 : hw_FG s args m 26 11 8 := ⟨RX12, "WardWalkersModel", RX12, TX12, 45, u_11, hown, rfl, by decide, (hts (.fieldLink RX12 26 "WardWalkersModel" "places" "[I") (by decide +kernel)), (fun _ h9 => h9)⟩
  have fg_29_11 : hw_FG s args m 29 11 9 := ⟨RX12, "WardWalkersModel", RX12, TX12, 45, u_11, hown, rfl, by decide, (hts (.fieldLink RX12 29 "WardWalkersModel" "wanted" "[I") (by decide +kernel)), (fun _ h9 => h9)⟩
  have fg_32_11 : hw_FG s args m 32 11 10 := ⟨RX12, "WardWalkersModel", RX12, TX12, 45, u_11, hown, rfl, by decide, (hts (.fieldLink RX12 32 "WardWalkersModel" "plays" "[I") (by decide +kernel)), (fun _ h9 => h9)⟩
  have fg_35_11 : hw_FG s args m 35 11 11 := ⟨RX12, "WardWalkersModel", RX12, TX12, 45, u_11, hown, rfl, by decide, (hts (.fieldLink RX12 35 "WardWalkersModel" "values" "[I") (by decide +kernel)), (fun _ h9 => h9)⟩
  have fg_7_11 : hw_FG s args m 7 11 0 := ⟨RX12, "WardWalkersModel", RX12, TX12, 45, u_11, hown, rfl, by decide, (hts (.fieldLink RX12 7 "WardWalkersModel" "row" "[I") (by decide +kernel)), (fun _ h9 => h9)⟩
  refine lv_aload_n hx hb dX12_lock_0 rfl (lv_at hl 0 rfl) ?_
  refine lv_iload_n hx hb dX12_lock_1 rfl (lv_at hl 1 rfl) ?_
  refine hw_cR (va_runV (As := [.int p1]) (rest := []) ⟨hx, hb, hml, hown, hts⟩ (k_X12_isLock l D G h0 p1 _ rm ud_m ky_m lo_m wk_m dk_m ln_m sm_m fi_m be_m rk_m rl_m rw_m cl_m dg_m G0 Rm ⟨by first | decide | omega, by first | decide | omega⟩ ⟨by first | decide | omega, by first | decide | omega⟩ ⟨by first | decide | omega, by first | decide | omega⟩ ⟨by first | decide | omega, by first | decide | omega⟩ ⟨by first | decide | omega, by first | decide | omega⟩ ⟨by first | decide | omega, by first | decide | omega⟩ ⟨by first | decide | omega, by first | decide | omega⟩ ⟨by first | decide | omega, by first | decide | omega⟩ ⟨by first | decide | omega, by first | decide | omega⟩ ⟨by first | decide | omega, by first | decide | omega⟩ ⟨by first | decide | omega, by first | decide | omega⟩ ⟨by first | decide | omega, by first | decide | omega⟩) (cwV 1 hts gX12_lock_X12_isLock rfl rfl rfl (by decide +kernel) ⟨Nat.le_of_ble_eq_true rfl, Nat.le_of_ble_eq_true rfl⟩) (hw_pV (hw_rc (q := (RX12, TX12, 45)) hK vm rfl) hH hK hST hS (by decide) (fun _ h => Or.inl h) vm) rfl rfl hl.1 rfl (lv_room (Nat.le_of_ble_eq_true rfl)) dX12_lock_2 ⟨Nat.le_of_ble_eq_true rfl, Nat.le_of_ble_eq_true rfl⟩) (fun v hp => ?_)
  rcases hp with ⟨rfl, q1⟩ | ⟨rfl, q2⟩
  · refine lv_if_ne (tgt := 11) hx hb dX12_lock_5 (by decide) (fun c3 => ?_) (fun c3 => ?_)
    · refine lv_iload_n hx hb dX12_lock_11 rfl (lv_at hl 2 rfl) ?_
      by_cases w4 : p2.toInt < 0 ∨ 4 < p2.toInt
      · refine lv_tableOut (tgt := 87) hx hb dX12_lock_12 w4 (by decide) ?_
        refine lv_bipush (v := (-3)) hx hb dX12_lock_87 (by decide) ?_
        exact hw_iretR (v := (-3)) hx hb hr hlocks hQ rfl (⟨(-3), rfl, (by first | rfl | trivial | assumption | omega | (intros; first | rfl | assumption | omega | (exfalso; omega)))⟩) dX12_lock_89
      · rcases (show p2.toInt = 0 ∨ p2.toInt = 1 ∨ p2.toInt = 2 ∨ p2.toInt = 3 ∨ p2.toInt = 4 by omega) with w4 | w4 | w4 | w4 | w4
        · refine lv_tableIn (tgt := 48) (off := 36) hx hb dX12_lock_12 (by omega) (by omega) (by rw [w4]; rfl) (by decide) ?_
          refine lv_aload_n hx hb dX12_lock_48 rfl (lv_at hl 0 rfl) ?_
          refine hw_get hx hb fg_26_11 hK vm rfl dX12_lock_49 ?_
          refine lv_iload_n hx hb dX12_lock_52 rfl (lv_at hl 1 rfl) ?_
          obtain ⟨f5, v6⟩ := hH.a48 (hw_RM_8 Rm)
          refine hw_iald hx hb hK v6 (hw_in (by omega) (by omega)) dX12_lock_53 ?_
          refine lv_topi (fun x8 e9 => ?_)
          exact hw_iretR (v := x8) hx hb hr hlocks hQ rfl (⟨x8, rfl, (by first | rfl | trivial | assumption | omega | (intros; first | rfl | assumption | omega | (exfalso; omega)))⟩) dX12_lock_54
        · refine lv_tableIn (tgt := 55) (off := 43) hx hb dX12_lock_12 (by omega) (by omega) (by rw [w4]; rfl) (by decide) ?_
          refine lv_aload_n hx hb dX12_lock_55 rfl (lv_at hl 0 rfl) ?_
          refine hw_get hx hb fg_29_11 hK vm rfl dX12_lock_56 ?_
          refine lv_iload_n hx hb dX12_lock_59 rfl (lv_at hl 1 rfl) ?_
          obtain ⟨f10, v11⟩ := hH.a49 (hw_RM_9 Rm)
          refine hw_iald hx hb hK v11 (hw_in (by omega) (by omega)) dX12_lock_60 ?_
          refine lv_topi (fun x13 e14 => ?_)
          exact hw_iretR (v := x13) hx hb hr hlocks hQ rfl (⟨x13, rfl, (by first | rfl | trivial | assumption | omega | (intros; first | rfl | assumption | omega | (exfalso; omega)))⟩) dX12_lock_61
        · refine lv_tableIn (tgt := 62) (off := 50) hx hb dX12_lock_12 (by omega) (by omega) (by rw [w4]; rfl) (by decide) ?_
          refine lv_aload_n hx hb dX12_lock_62 rfl (lv_at hl 0 rfl) ?_
          refine hw_get hx hb fg_32_11 hK vm rfl dX12_lock_63 ?_
          refine lv_iload_n hx hb dX12_lock_66 rfl (lv_at hl 1 rfl) ?_
          obtain ⟨f15, v16⟩ := hH.a50 (hw_RM_10 Rm)
          refine hw_iald hx hb hK v16 (hw_in (by omega) (by omega)) dX12_lock_67 ?_
          refine lv_topi (fun x18 e19 => ?_)
          exact hw_iretR (v := x18) hx hb hr hlocks hQ rfl (⟨x18, rfl, (by first | rfl | trivial | assumption | omega | (intros; first | rfl | assumption | omega | (exfalso; omega)))⟩) dX12_lock_68
        · refine lv_tableIn (tgt := 69) (off := 57) hx hb dX12_lock_12 (by omega) (by omega) (by rw [w4]; rfl) (by decide) ?_
          refine lv_aload_n hx hb dX12_lock_69 rfl (lv_at hl 0 rfl) ?_
          refine hw_get hx hb fg_35_11 hK vm rfl dX12_lock_70 ?_
          refine lv_iload_n hx hb dX12_lock_73 rfl (lv_at hl 1 rfl) ?_
          obtain ⟨f20, v21⟩ := hH.a51 (hw_RM_11 Rm)
          refine hw_iald hx hb hK v21 (hw_in (by omega) (by omega)) dX12_lock_74 ?_
          refine lv_topi (fun x23 e24 => ?_)
          exact hw_iretR (v := x23) hx hb hr hlocks hQ rfl (⟨x23, rfl, (by first | rfl | trivial | assumption | omega | (intros; first | rfl | assumption | omega | (exfalso; omega)))⟩) dX12_lock_75
        · refine lv_tableIn (tgt := 76) (off := 64) hx hb dX12_lock_12 (by omega) (by omega) (by rw [w4]; rfl) (by decide) ?_
          refine lv_aload_n hx hb dX12_lock_76 rfl (lv_at hl 0 rfl) ?_
          refine hw_get hx hb fg_7_11 hK vm rfl dX12_lock_77 ?_
          refine lv_iconst (v := 2) hx hb dX12_lock_80 (by decide) ?_
          obtain ⟨f25, v26⟩ := hH.a40 (hw_RM_0 Rm)
          refine hw_iald hx hb hK v26 (hw_in (x := 2) (by decide) (by decide)) dX12_lock_81 ?_
          refine lv_topi (fun x28 e29 => ?_)
          refine lv_iload_n hx hb dX12_lock_82 rfl (lv_at hl 1 rfl) ?_
          refine lv_ishr hx hb dX12_lock_83 ?_
          refine lv_topi (fun x30 e31 => ?_)
          refine lv_iconst (v := 1) hx hb dX12_lock_84 (by decide) ?_
          refine lv_iand hx hb dX12_lock_85 ?_
          refine lv_topi (fun x32 e33 => ?_)
          have t34 : 0 ≤ x32.toInt ∧ x32.toInt ≤ 1 := by rw [e33]; exact hw_and (by first | decide | omega)
          exact hw_iretR (v := x32) hx hb hr hlocks hQ rfl (⟨x32, rfl, (by first | rfl | trivial | assumption | omega | (intros; first | rfl | assumption | omega | (exfalso; omega)))⟩) dX12_lock_86
    · exact absurd c3 (by decide)
  · refine lv_if_ne (tgt := 11) hx hb dX12_lock_5 (by decide) (fun c35 => ?_) (fun c35 => ?_)
    · exact absurd c35 (by decide)
    · refine lv_bipush (v := (-2)) hx hb dX12_lock_8 (by decide) ?_
      exact hw_iretR (v := (-2)) hx hb hr hlocks hQ rfl (⟨(-2), rfl, (by first | rfl | trivial | assumption | omega | (intros; first | rfl | assumption | omega | (exfalso; omega)))⟩) dX12_lock_10

set_option maxHeartbeats 4000000 in
set_option maxRecDepth 100000 in
theorem k_X12_walker (l : Launch) (D : hw_D) (G : Nat → Nat) (h0 : Nat) (p1 : Int32) (p2 : Int32) (sz : Nat) (rm : Nat → Nat) (ud_m ky_m lo_m wk_m dk_m ln_m sm_m fi_m be_m rk_m rl_m rw_m cl_m dg_m : Int32) (G0 : G h0 = 9) (Rm : hw_RM G rm) (gud_m : 0 ≤ ud_m.toInt ∧ ud_m.toInt ≤ 8) (gky_m : 0 ≤ ky_m.toInt ∧ ky_m.toInt ≤ 7) (glo_m : 0 ≤ lo_m.toInt ∧ lo_m.toInt ≤ 7) (gwk_m : 0 ≤ wk_m.toInt ∧ wk_m.toInt ≤ 3) (gln_m : 0 ≤ ln_m.toInt ∧ ln_m.toInt ≤ 200) (gsm_m : 0 ≤ sm_m.toInt ∧ sm_m.toInt ≤ 6) (gfi_m : 0 ≤ fi_m.toInt ∧ fi_m.toInt ≤ 200) (gbe_m : 0 ≤ be_m.toInt ∧ be_m.toInt ≤ 200) (grk_m : 0 ≤ rk_m.toInt ∧ rk_m.toInt ≤ 7) (grl_m : 0 ≤ rl_m.toInt ∧ rl_m.toInt ≤ 7) (grw_m : 0 ≤ rw_m.toInt ∧ rw_m.toInt ≤ 3) (gdg_m : 0 ≤ dg_m.toInt ∧ dg_m.toInt ≤ 1) : Met l yX12_walker wsX12_walker ({ frames := 2, cells := 0, slots := 0, locals := 46 } : Room) (hw_PC D G [.ref h0, .int p1, .int p2] sz (fun H => va_at D.1 vwCl (h0, .inr (11, hw_LM rm ud_m ky_m lo_m wk_m dk_m ln_m sm_m fi_m be_m rk_m rl_m rw_m cl_m dg_m)) H)) (hw_QR (fun v => ∃ (r : Int32), v = .int r ∧ (wk_m.toInt = 0 → r.toInt = -2))) 0 0 (fun _ => False) := by
  refine hw_met (cc := cX12_walker) (maxL := 3) (ret := (some .int)) (plainFor_of_name (by decide)) rfl (Nat.le_of_ble_eq_true rfl) ?_
  intro p e s m args below meth c QQ ls hsz hx hb hml hr hts hown hlocks hnm hH hK hST hF hQ hl
  subst hsz
  have hS : va_S (hw_AW G [] s.heap.size) s.heap s.heap [] := va_S.rf
  have vm := hF
  have hl : lv_has ls 3 [(0, .ref h0), (1, .int p1), (2, .int p2)] := hl
  have u_11 : ∀ w ∈ u_ws RX12 TX12 45, w.before args s = true := fun w hw => hts w ((by decide +kernel : ∀ w ∈ u_ws RX12 TX12 45, w ∈ wsX12_walker) w hw)
  have fg_7_11 : hw_FG s args m 7 11 0 := ⟨RX12, "WardWalkersModel", RX12, TX12, 45, u_11, hown, rfl, by decide, (hts (.fieldLink RX12 7 "WardWalkersModel" "row" "[I") (by decide +kernel)), (fun _ h9 => h9)⟩
  refine lv_aload_n hx hb dX12_walker_0 rfl (lv_at hl 0 rfl) ?_
  refine lv_iload_n hx hb dX12_walker_1 rfl (lv_at hl 1 rfl) ?_
  refine hw_cR (va_runV (As := [.int p1]) (rest := []) ⟨hx, hb, hml, hown, hts⟩ (k_X12_isWalker l D G h0 p1 _ rm ud_m ky_m lo_m wk_m dk_m ln_m sm_m fi_m be_m rk_m rl_m rw_m cl_m dg_m G0 Rm ⟨by first | decide | omega, by first | decide | omega⟩ ⟨by first | decide | omega, by first | decide | omega⟩ ⟨by first | decide | omega, by first | decide | omega⟩ ⟨by first | decide | omega, by first | decide | omega⟩ ⟨by first | decide | omega, by first | decide | omega⟩ ⟨by first | decide | omega, by first | decide | omega⟩ ⟨by first | decide | omega, by first | decide | omega⟩ ⟨by first | decide | omega, by first | decide | omega⟩ ⟨by first | decide | omega, by first | decide | omega⟩ ⟨by first | decide | omega, by first | decide | omega⟩ ⟨by first | decide | omega, by first | decide | omega⟩ ⟨by first | decide | omega, by first | decide | omega⟩) (cwV 1 hts gX12_walker_X12_isWalker rfl rfl rfl (by decide +kernel) ⟨Nat.le_of_ble_eq_true rfl, Nat.le_of_ble_eq_true rfl⟩) (hw_pV (hw_rc (q := (RX12, TX12, 45)) hK vm rfl) hH hK hST hS (by decide) (fun _ h => Or.inl h) vm) rfl rfl hl.1 rfl (lv_room (Nat.le_of_ble_eq_true rfl)) dX12_walker_2 ⟨Nat.le_of_ble_eq_true rfl, Nat.le_of_ble_eq_true rfl⟩) (fun v hp => ?_)
  rcases hp with ⟨rfl, q1⟩ | ⟨rfl, q2⟩
  · refine lv_if_ne (tgt := 11) hx hb dX12_walker_5 (by decide) (fun c3 => ?_) (fun c3 => ?_)
    · refine lv_iload_n hx hb dX12_walker_11 rfl (lv_at hl 2 rfl) ?_
      refine lv_if_ne (tgt := 27) hx hb dX12_walker_12 (by decide) (fun c4 => ?_) (fun c4 => ?_)
      · have b5 : p2.toInt ≠ 0 := hw_ine c4
        refine lv_iload_n hx hb dX12_walker_27 rfl (lv_at hl 2 rfl) ?_
        refine lv_iconst (v := 1) hx hb dX12_walker_28 (by decide) ?_
        refine lv_icmp_ne (tgt := 44) hx hb dX12_walker_29 (by decide) (fun c6 => ?_) (fun c6 => ?_)
        · have b7 : p2.toInt ≠ 1 := hw_ine c6
          refine lv_bipush (v := (-3)) hx hb dX12_walker_44 (by decide) ?_
          exact hw_iretR (v := (-3)) hx hb hr hlocks hQ rfl (⟨(-3), rfl, (by first | rfl | trivial | assumption | omega | (intros; first | rfl | assumption | omega | (exfalso; omega)))⟩) dX12_walker_46
        · have b8 : p2.toInt = 1 := hw_ieq c6
          refine lv_aload_n hx hb dX12_walker_32 rfl (lv_at hl 0 rfl) ?_
          refine hw_get hx hb fg_7_11 hK vm rfl dX12_walker_33 ?_
          refine lv_bipush (v := 20) hx hb dX12_walker_36 (by decide) ?_
          refine lv_iload_n hx hb dX12_walker_38 rfl (lv_at hl 1 rfl) ?_
          refine lv_iadd hx hb dX12_walker_39 ?_
          refine lv_topi (fun x9 e10 => ?_)
          have t11 : x9.toInt = 20 + p1.toInt := by rw [e10]; exact hw_add rfl rfl (by omega) (by omega)
          obtain ⟨f12, v13⟩ := hH.a40 (hw_RM_0 Rm)
          refine hw_iald hx hb hK v13 (hw_in (by omega) (by omega)) dX12_walker_40 ?_
          refine lv_topi (fun x15 e16 => ?_)
          refine lv_goto (tgt := 46) hx hb dX12_walker_41 (by decide) ?_
          exact hw_iretR (v := x15) hx hb hr hlocks hQ rfl (⟨x15, rfl, (by first | rfl | trivial | assumption | omega | (intros; first | rfl | assumption | omega | (exfalso; omega)))⟩) dX12_walker_46
      · have b17 : p2.toInt = 0 := hw_ieq c4
        refine lv_aload_n hx hb dX12_walker_15 rfl (lv_at hl 0 rfl) ?_
        refine hw_get hx hb fg_7_11 hK vm rfl dX12_walker_16 ?_
        refine lv_bipush (v := 17) hx hb dX12_walker_19 (by decide) ?_
        refine lv_iload_n hx hb dX12_walker_21 rfl (lv_at hl 1 rfl) ?_
        refine lv_iadd hx hb dX12_walker_22 ?_
        refine lv_topi (fun x18 e19 => ?_)
        have t20 : x18.toInt = 17 + p1.toInt := by rw [e19]; exact hw_add rfl rfl (by omega) (by omega)
        obtain ⟨f21, v22⟩ := hH.a40 (hw_RM_0 Rm)
        refine hw_iald hx hb hK v22 (hw_in (by omega) (by omega)) dX12_walker_23 ?_
        refine lv_topi (fun x24 e25 => ?_)
        refine lv_goto (tgt := 46) hx hb dX12_walker_24 (by decide) ?_
        exact hw_iretR (v := x24) hx hb hr hlocks hQ rfl (⟨x24, rfl, (by first | rfl | trivial | assumption | omega | (intros; first | rfl | assumption | omega | (exfalso; omega)))⟩) dX12_walker_46
    · exact absurd c3 (by decide)
  · refine lv_if_ne (tgt := 11) hx hb dX12_walker_5 (by decide) (fun c26 => ?_) (fun c26 => ?_)
    · exact absurd c26 (by decide)
    · refine lv_bipush (v := (-2)) hx hb dX12_walker_8 (by decide) ?_
      exact hw_iretR (v := (-2)) hx hb hr hlocks hQ rfl (⟨(-2), rfl, (by first | rfl | trivial | assumption | omega | (intros; first | rfl | assumption | omega | (exfalso; omega)))⟩) dX12_walker_10

set_option maxHeartbeats 4000000 in
set_option maxRecDepth 100000 in
theorem k_X12_goes (l : Launch) (D : hw_D) (G : Nat → Nat) (h0 : Nat) (p1 : Int32) (p2 : Int32) (p3 : Int32) (sz : Nat) (rm : Nat → Nat) (ud_m ky_m lo_m wk_m dk_m ln_m sm_m fi_m be_m rk_m rl_m rw_m cl_m dg_m : Int32) (G0 : G h0 = 9) (Rm : hw_RM G rm) (gud_m : 0 ≤ ud_m.toInt ∧ ud_m.toInt ≤ 8) (gky_m : 0 ≤ ky_m.toInt ∧ ky_m.toInt ≤ 7) (glo_m : 0 ≤ lo_m.toInt ∧ lo_m.toInt ≤ 7) (gwk_m : 0 ≤ wk_m.toInt ∧ wk_m.toInt ≤ 3) (gln_m : 0 ≤ ln_m.toInt ∧ ln_m.toInt ≤ 200) (gsm_m : 0 ≤ sm_m.toInt ∧ sm_m.toInt ≤ 6) (gfi_m : 0 ≤ fi_m.toInt ∧ fi_m.toInt ≤ 200) (gbe_m : 0 ≤ be_m.toInt ∧ be_m.toInt ≤ 200) (grk_m : 0 ≤ rk_m.toInt ∧ rk_m.toInt ≤ 7) (grl_m : 0 ≤ rl_m.toInt ∧ rl_m.toInt ≤ 7) (grw_m : 0 ≤ rw_m.toInt ∧ rw_m.toInt ≤ 3) (gdg_m : 0 ≤ dg_m.toInt ∧ dg_m.toInt ≤ 1) : Met l yX12_goes wsX12_goes ({ frames := 5, cells := 0, slots := 0, locals := 114 } : Room) (hw_PC D G [.ref h0, .int p1, .int p2, .int p3] sz (fun H => va_at D.1 vwCl (h0, .inr (11, hw_LM rm ud_m ky_m lo_m wk_m dk_m ln_m sm_m fi_m be_m rk_m rl_m rw_m cl_m dg_m)) H)) (hw_QR (fun v => ∃ (r : Int32), v = .int r ∧ (ky_m.toInt = 0 → r.toInt = -2))) 0 0 (fun _ => False) := by
  refine hw_met (cc := cX12_goes) (maxL := 4) (ret := (some .int)) (plainFor_of_name (by decide)) rfl (Nat.le_of_ble_eq_true rfl) ?_
  intro p e s m args below meth c QQ ls hsz hx hb hml hr hts hown hlocks hnm hH hK hST hF hQ hl
  subst hsz
  have hS : va_S (hw_AW G [] s.heap.size) s.heap s.heap [] := va_S.rf
  have vm := hF
  have hl : lv_has ls 4 [(0, .ref h0), (1, .int p1), (2, .int p2), (3, .int p3)] := hl
  have u_11 : ∀ w ∈ u_ws RX12 TX12 45, w.before args s = true := fun w hw => hts w ((by decide +kernel : ∀ w ∈ u_ws RX12 TX12 45, w ∈ wsX12_goes) w hw)
  have fg_29_11 : hw_FG s args m 29 11 9 := ⟨RX12, "WardWalkersModel", RX12, TX12, 45, u_11, hown, rfl, by decide, (hts (.fieldLink RX12 29 "WardWalkersModel" "wanted" "[I") (by decide +kernel)), (fun _ h9 => h9)⟩
  refine lv_aload_n hx hb dX12_goes_0 rfl (lv_at hl 0 rfl) ?_
  refine lv_iload_n hx hb dX12_goes_1 rfl (lv_at hl 1 rfl) ?_
  refine hw_cR (va_runV (As := [.int p1]) (rest := []) ⟨hx, hb, hml, hown, hts⟩ (k_X12_isKey l D G h0 p1 _ rm ud_m ky_m lo_m wk_m dk_m ln_m sm_m fi_m be_m rk_m rl_m rw_m cl_m dg_m G0 Rm ⟨by first | decide | omega, by first | decide | omega⟩ ⟨by first | decide | omega, by first | decide | omega⟩ ⟨by first | decide | omega, by first | decide | omega⟩ ⟨by first | decide | omega, by first | decide | omega⟩ ⟨by first | decide | omega, by first | decide | omega⟩ ⟨by first | decide | omega, by first | decide | omega⟩ ⟨by first | decide | omega, by first | decide | omega⟩ ⟨by first | decide | omega, by first | decide | omega⟩ ⟨by first | decide | omega, by first | decide | omega⟩ ⟨by first | decide | omega, by first | decide | omega⟩ ⟨by first | decide | omega, by first | decide | omega⟩ ⟨by first | decide | omega, by first | decide | omega⟩) (cwV 1 hts gX12_goes_X12_isKey rfl rfl rfl (by decide +kernel) ⟨Nat.le_of_ble_eq_true rfl, Nat.le_of_ble_eq_true rfl⟩) (hw_pV (hw_rc (q := (RX12, TX12, 45)) hK vm rfl) hH hK hST hS (by decide) (fun _ h => Or.inl h) vm) rfl rfl hl.1 rfl (lv_room (Nat.le_of_ble_eq_true rfl)) dX12_goes_2 ⟨Nat.le_of_ble_eq_true rfl, Nat.le_of_ble_eq_true rfl⟩) (fun v hp => ?_)
  rcases hp with ⟨rfl, q1⟩ | ⟨rfl, q2⟩
  · refine lv_if_eq (tgt := 16) hx hb dX12_goes_5 (by decide) (fun c3 => ?_) (fun c3 => ?_)
    · exact absurd c3 (by decide)
    · refine lv_aload_n hx hb dX12_goes_8 rfl (lv_at hl 0 rfl) ?_
      refine lv_iload_n hx hb dX12_goes_9 rfl (lv_at hl 2 rfl) ?_
      refine hw_cR (va_runV (As := [.int p2]) (rest := []) ⟨hx, hb, hml, hown, hts⟩ (k_X12_isLock l D G h0 p2 _ rm ud_m ky_m lo_m wk_m dk_m ln_m sm_m fi_m be_m rk_m rl_m rw_m cl_m dg_m G0 Rm ⟨by first | decide | omega, by first | decide | omega⟩ ⟨by first | decide | omega, by first | decide | omega⟩ ⟨by first | decide | omega, by first | decide | omega⟩ ⟨by first | decide | omega, by first | decide | omega⟩ ⟨by first | decide | omega, by first | decide | omega⟩ ⟨by first | decide | omega, by first | decide | omega⟩ ⟨by first | decide | omega, by first | decide | omega⟩ ⟨by first | decide | omega, by first | decide | omega⟩ ⟨by first | decide | omega, by first | decide | omega⟩ ⟨by first | decide | omega, by first | decide | omega⟩ ⟨by first | decide | omega, by first | decide | omega⟩ ⟨by first | decide | omega, by first | decide | omega⟩) (cwV 1 hts gX12_goes_X12_isLock rfl rfl rfl (by decide +kernel) ⟨Nat.le_of_ble_eq_true rfl, Nat.le_of_ble_eq_true rfl⟩) (hw_pV (hw_rc (q := (RX12, TX12, 45)) hK vm rfl) hH hK hST hS (by decide) (fun _ h => Or.inl h) vm) rfl rfl hl.1 rfl (lv_room (Nat.le_of_ble_eq_true rfl)) dX12_goes_10 ⟨Nat.le_of_ble_eq_true rfl, Nat.le_of_ble_eq_true rfl⟩) (fun v hp => ?_)
      rcases hp with ⟨rfl, q4⟩ | ⟨rfl, q5⟩
      · refine lv_if_ne (tgt := 19) hx hb dX12_goes_13 (by decide) (fun c6 => ?_) (fun c6 => ?_)
        · refine lv_iload_n hx hb dX12_goes_19 rfl (lv_at hl 3 rfl) ?_
          by_cases w7 : p3.toInt < 0 ∨ 2 < p3.toInt
          · refine lv_tableOut (tgt := 99) hx hb dX12_goes_20 w7 (by decide) ?_
            refine lv_bipush (v := (-3)) hx hb dX12_goes_99 (by decide) ?_
            exact hw_iretR (v := (-3)) hx hb hr hlocks hQ rfl (⟨(-3), rfl, (by first | rfl | trivial | assumption | omega | (intros; first | rfl | assumption | omega | (exfalso; omega)))⟩) dX12_goes_101
          · rcases (show p3.toInt = 0 ∨ p3.toInt = 1 ∨ p3.toInt = 2 by omega) with w7 | w7 | w7
            · refine lv_tableIn (tgt := 48) (off := 28) hx hb dX12_goes_20 (by omega) (by omega) (by rw [w7]; rfl) (by decide) ?_
              refine lv_aload_n hx hb dX12_goes_48 rfl (lv_at hl 0 rfl) ?_
              refine hw_get hx hb fg_29_11 hK vm rfl dX12_goes_49 ?_
              refine lv_iload_n hx hb dX12_goes_52 rfl (lv_at hl 2 rfl) ?_
              obtain ⟨f8, v9⟩ := hH.a49 (hw_RM_9 Rm)
              refine hw_iald hx hb hK v9 (hw_in (by omega) (by omega)) dX12_goes_53 ?_
              refine lv_topi (fun x11 e12 => ?_)
              refine lv_aload_n hx hb dX12_goes_54 rfl (lv_at hl 0 rfl) ?_
              refine lv_iload_n hx hb dX12_goes_55 rfl (lv_at hl 1 rfl) ?_
              refine hw_cR (va_runV (As := [.int p1]) (rest := [.int x11]) ⟨hx, hb, hml, hown, hts⟩ (k_X12_edge l D G h0 p1 _ G0 (by first | assumption | decide | omega)) (cwV 1 hts gX12_goes_X12_edge rfl rfl rfl (by decide +kernel) ⟨Nat.le_of_ble_eq_true rfl, Nat.le_of_ble_eq_true rfl⟩) (hw_pV (hw_rc (q := (RX12, TX12, 45)) hK vm rfl) hH hK hST hS (by decide) (fun _ h => Or.inl h) trivial) rfl rfl hl.1 rfl (lv_room (Nat.le_of_ble_eq_true rfl)) dX12_goes_56 ⟨Nat.le_of_ble_eq_true rfl, Nat.le_of_ble_eq_true rfl⟩) (fun v hp => ?_)
              obtain ⟨x13, rfl⟩ := hp
              refine lv_iconst (v := (-1)) hx hb dX12_goes_59 (by decide) ?_
              refine lv_ixor hx hb dX12_goes_60 ?_
              refine lv_topi (fun x14 e15 => ?_)
              refine lv_iand hx hb dX12_goes_61 ?_
              refine lv_topi (fun x16 e17 => ?_)
              refine hw_cR (va_runS (As := [.int x16]) (rest := []) ⟨hx, hb, hml, hown, hts⟩ (k_X12_bits l D G x16 _) (va_cwS 1 hts gX12_goes_X12_bits rfl rfl rfl (by decide +kernel) ⟨Nat.le_of_ble_eq_true rfl, Nat.le_of_ble_eq_true rfl⟩) (hw_pS hH hK hST hS (by decide) (fun _ h => Or.inl h) trivial) rfl rfl hl.1 rfl (lv_room (Nat.le_of_ble_eq_true rfl)) dX12_goes_62 ⟨Nat.le_of_ble_eq_true rfl, Nat.le_of_ble_eq_true rfl⟩) (fun v hp => ?_)
              obtain ⟨x18, rfl, g19, q20⟩ := hp
              exact hw_iretR (v := x18) hx hb hr hlocks hQ rfl (⟨x18, rfl, (by first | rfl | trivial | assumption | omega | (intros; first | rfl | assumption | omega | (exfalso; omega)))⟩) dX12_goes_65
            · refine lv_tableIn (tgt := 66) (off := 46) hx hb dX12_goes_20 (by omega) (by omega) (by rw [w7]; rfl) (by decide) ?_
              refine lv_aload_n hx hb dX12_goes_66 rfl (lv_at hl 0 rfl) ?_
              refine lv_iload_n hx hb dX12_goes_67 rfl (lv_at hl 1 rfl) ?_
              refine hw_cR (va_runV (As := [.int p1]) (rest := []) ⟨hx, hb, hml, hown, hts⟩ (k_X12_edge l D G h0 p1 _ G0 (by first | assumption | decide | omega)) (cwV 1 hts gX12_goes_X12_edge rfl rfl rfl (by decide +kernel) ⟨Nat.le_of_ble_eq_true rfl, Nat.le_of_ble_eq_true rfl⟩) (hw_pV (hw_rc (q := (RX12, TX12, 45)) hK vm rfl) hH hK hST hS (by decide) (fun _ h => Or.inl h) trivial) rfl rfl hl.1 rfl (lv_room (Nat.le_of_ble_eq_true rfl)) dX12_goes_68 ⟨Nat.le_of_ble_eq_true rfl, Nat.le_of_ble_eq_true rfl⟩) (fun v hp => ?_)
              obtain ⟨x21, rfl⟩ := hp
              refine lv_aload_n hx hb dX12_goes_71 rfl (lv_at hl 0 rfl) ?_
              refine hw_get hx hb fg_29_11 hK vm rfl dX12_goes_72 ?_
              refine lv_iload_n hx hb dX12_goes_75 rfl (lv_at hl 2 rfl) ?_
              obtain ⟨f22, v23⟩ := hH.a49 (hw_RM_9 Rm)
              refine hw_iald hx hb hK v23 (hw_in (by omega) (by omega)) dX12_goes_76 ?_
              refine lv_topi (fun x25 e26 => ?_)
              refine lv_iconst (v := (-1)) hx hb dX12_goes_77 (by decide) ?_
              refine lv_ixor hx hb dX12_goes_78 ?_
              refine lv_topi (fun x27 e28 => ?_)
              refine lv_iand hx hb dX12_goes_79 ?_
              refine lv_topi (fun x29 e30 => ?_)
              refine hw_cR (va_runS (As := [.int x29]) (rest := []) ⟨hx, hb, hml, hown, hts⟩ (k_X12_bits l D G x29 _) (va_cwS 1 hts gX12_goes_X12_bits rfl rfl rfl (by decide +kernel) ⟨Nat.le_of_ble_eq_true rfl, Nat.le_of_ble_eq_true rfl⟩) (hw_pS hH hK hST hS (by decide) (fun _ h => Or.inl h) trivial) rfl rfl hl.1 rfl (lv_room (Nat.le_of_ble_eq_true rfl)) dX12_goes_80 ⟨Nat.le_of_ble_eq_true rfl, Nat.le_of_ble_eq_true rfl⟩) (fun v hp => ?_)
              obtain ⟨x31, rfl, g32, q33⟩ := hp
              exact hw_iretR (v := x31) hx hb hr hlocks hQ rfl (⟨x31, rfl, (by first | rfl | trivial | assumption | omega | (intros; first | rfl | assumption | omega | (exfalso; omega)))⟩) dX12_goes_83
            · refine lv_tableIn (tgt := 84) (off := 64) hx hb dX12_goes_20 (by omega) (by omega) (by rw [w7]; rfl) (by decide) ?_
              refine lv_aload_n hx hb dX12_goes_84 rfl (lv_at hl 0 rfl) ?_
              refine lv_iload_n hx hb dX12_goes_85 rfl (lv_at hl 1 rfl) ?_
              refine lv_iload_n hx hb dX12_goes_86 rfl (lv_at hl 2 rfl) ?_
              refine hw_cR (va_runV (As := [.int p1, .int p2]) (rest := []) ⟨hx, hb, hml, hown, hts⟩ (k_X12_doesGo l D G h0 p1 p2 _ G0 (by first | assumption | decide | omega) (by first | assumption | decide | omega)) (cwV 2 hts gX12_goes_X12_doesGo rfl rfl rfl (by decide +kernel) ⟨Nat.le_of_ble_eq_true rfl, Nat.le_of_ble_eq_true rfl⟩) (hw_pV (hw_rc (q := (RX12, TX12, 45)) hK vm rfl) hH hK hST hS (by decide) (fun _ h => Or.inl h) trivial) rfl rfl hl.1 rfl (lv_room (Nat.le_of_ble_eq_true rfl)) dX12_goes_87 ⟨Nat.le_of_ble_eq_true rfl, Nat.le_of_ble_eq_true rfl⟩) (fun v hp => ?_)
              rcases hp with rfl | rfl
              · refine lv_if_eq (tgt := 97) hx hb dX12_goes_90 (by decide) (fun c34 => ?_) (fun c34 => ?_)
                · exact absurd c34 (by decide)
                · refine lv_iconst (v := 1) hx hb dX12_goes_93 (by decide) ?_
                  refine lv_goto (tgt := 98) hx hb dX12_goes_94 (by decide) ?_
                  exact hw_iretR (v := 1) hx hb hr hlocks hQ rfl (⟨1, rfl, (by first | rfl | trivial | assumption | omega | (intros; first | rfl | assumption | omega | (exfalso; omega)))⟩) dX12_goes_98
              · refine lv_if_eq (tgt := 97) hx hb dX12_goes_90 (by decide) (fun c35 => ?_) (fun c35 => ?_)
                · refine lv_iconst (v := 0) hx hb dX12_goes_97 (by decide) ?_
                  exact hw_iretR (v := 0) hx hb hr hlocks hQ rfl (⟨0, rfl, (by first | rfl | trivial | assumption | omega | (intros; first | rfl | assumption | omega | (exfalso; omega)))⟩) dX12_goes_98
                · exact absurd c35 (by decide)
        · exact absurd c6 (by decide)
      · refine lv_if_ne (tgt := 19) hx hb dX12_goes_13 (by decide) (fun c36 => ?_) (fun c36 => ?_)
        · exact absurd c36 (by decide)
        · refine lv_bipush (v := (-2)) hx hb dX12_goes_16 (by decide) ?_
          exact hw_iretR (v := (-2)) hx hb hr hlocks hQ rfl (⟨(-2), rfl, (by first | rfl | trivial | assumption | omega | (intros; first | rfl | assumption | omega | (exfalso; omega)))⟩) dX12_goes_18
  · refine lv_if_eq (tgt := 16) hx hb dX12_goes_5 (by decide) (fun c37 => ?_) (fun c37 => ?_)
    · refine lv_bipush (v := (-2)) hx hb dX12_goes_16 (by decide) ?_
      exact hw_iretR (v := (-2)) hx hb hr hlocks hQ rfl (⟨(-2), rfl, (by first | rfl | trivial | assumption | omega | (intros; first | rfl | assumption | omega | (exfalso; omega)))⟩) dX12_goes_18
    · exact absurd c37 (by decide)

set_option maxHeartbeats 4000000 in
set_option maxRecDepth 100000 in
theorem k_X12_as (l : Launch) (D : hw_D) (G : Nat → Nat) (h0 : Nat) (p1 : Int32) (p2 : Int32) (sz : Nat) (rm : Nat → Nat) (ud_m ky_m lo_m wk_m dk_m ln_m sm_m fi_m be_m rk_m rl_m rw_m cl_m dg_m : Int32) (G0 : G h0 = 9) (Rm : hw_RM G rm) (gud_m : 0 ≤ ud_m.toInt ∧ ud_m.toInt ≤ 8) (gky_m : 0 ≤ ky_m.toInt ∧ ky_m.toInt ≤ 7) (glo_m : 0 ≤ lo_m.toInt ∧ lo_m.toInt ≤ 7) (gwk_m : 0 ≤ wk_m.toInt ∧ wk_m.toInt ≤ 3) (gln_m : 0 ≤ ln_m.toInt ∧ ln_m.toInt ≤ 200) (gsm_m : 0 ≤ sm_m.toInt ∧ sm_m.toInt ≤ 6) (gfi_m : 0 ≤ fi_m.toInt ∧ fi_m.toInt ≤ 200) (gbe_m : 0 ≤ be_m.toInt ∧ be_m.toInt ≤ 200) (grk_m : 0 ≤ rk_m.toInt ∧ rk_m.toInt ≤ 7) (grl_m : 0 ≤ rl_m.toInt ∧ rl_m.toInt ≤ 7) (grw_m : 0 ≤ rw_m.toInt ∧ rw_m.toInt ≤ 3) (gdg_m : 0 ≤ dg_m.toInt ∧ dg_m.toInt ≤ 1) : Met l yX12_as wsX12_as ({ frames := 2, cells := 0, slots := 0, locals := 46 } : Room) (hw_PC D G [.ref h0, .int p1, .int p2] sz (fun H => va_at D.1 vwCl (h0, .inr (11, hw_LM rm ud_m ky_m lo_m wk_m dk_m ln_m sm_m fi_m be_m rk_m rl_m rw_m cl_m dg_m)) H)) (hw_QR (fun v => ∃ (r : Int32), v = .int r ∧ (ky_m.toInt = 0 → r.toInt = -2))) 0 0 (fun _ => False) := by
  refine hw_met (cc := cX12_as) (maxL := 4) (ret := (some .int)) (plainFor_of_name (by decide)) rfl (Nat.le_of_ble_eq_true rfl) ?_
  intro p e s m args below meth c QQ ls hsz hx hb hml hr hts hown hlocks hnm hH hK hST hF hQ hl
  subst hsz
  have hS : va_S (hw_AW G [] s.heap.size) s.heap s.heap [] := va_S.rf
  have vm := hF
  have hl : lv_has ls 4 [(0, .ref h0), (1, .int p1), (2, .int p2)] := hl
  have u_11 : ∀ w ∈ u_ws RX12 TX12 45, w.before args s = true := fun w hw => hts w ((by decide +kernel : ∀ w ∈ u_ws RX12 TX12 45, w ∈ wsX12_as) w hw)
  have fg_17_11 : hw_FG s args m 17 11 4 := ⟨RX12, "WardWalkersModel", RX12, TX12, 45, u_11, hown, rfl, by decide, (hts (.fieldLink RX12 17 "WardWalkersModel" "kinds" "[I") (by decide +kernel)), (fun _ h9 => h9)⟩
  refine lv_aload_n hx hb dX12_as_0 rfl (lv_at hl 0 rfl) ?_
  refine lv_iload_n hx hb dX12_as_1 rfl (lv_at hl 1 rfl) ?_
  refine hw_cR (va_runV (As := [.int p1]) (rest := []) ⟨hx, hb, hml, hown, hts⟩ (k_X12_isKey l D G h0 p1 _ rm ud_m ky_m lo_m wk_m dk_m ln_m sm_m fi_m be_m rk_m rl_m rw_m cl_m dg_m G0 Rm ⟨by first | decide | omega, by first | decide | omega⟩ ⟨by first | decide | omega, by first | decide | omega⟩ ⟨by first | decide | omega, by first | decide | omega⟩ ⟨by first | decide | omega, by first | decide | omega⟩ ⟨by first | decide | omega, by first | decide | omega⟩ ⟨by first | decide | omega, by first | decide | omega⟩ ⟨by first | decide | omega, by first | decide | omega⟩ ⟨by first | decide | omega, by first | decide | omega⟩ ⟨by first | decide | omega, by first | decide | omega⟩ ⟨by first | decide | omega, by first | decide | omega⟩ ⟨by first | decide | omega, by first | decide | omega⟩ ⟨by first | decide | omega, by first | decide | omega⟩) (cwV 1 hts gX12_as_X12_isKey rfl rfl rfl (by decide +kernel) ⟨Nat.le_of_ble_eq_true rfl, Nat.le_of_ble_eq_true rfl⟩) (hw_pV (hw_rc (q := (RX12, TX12, 45)) hK vm rfl) hH hK hST hS (by decide) (fun _ h => Or.inl h) vm) rfl rfl hl.1 rfl (lv_room (Nat.le_of_ble_eq_true rfl)) dX12_as_2 ⟨Nat.le_of_ble_eq_true rfl, Nat.le_of_ble_eq_true rfl⟩) (fun v hp => ?_)
  rcases hp with ⟨rfl, q1⟩ | ⟨rfl, q2⟩
  · refine lv_if_ne (tgt := 11) hx hb dX12_as_5 (by decide) (fun c3 => ?_) (fun c3 => ?_)
    · refine lv_iload_n hx hb dX12_as_11 rfl (lv_at hl 2 rfl) ?_
      refine lv_i2l hx hb dX12_as_12 rfl ?_
      refine lv_topl (fun x4 e5 => ?_)
      have t6 : x4.toInt = p2.toInt := by rw [e5]; exact hw_i2l _
      have rg7 := hw_rng p2
      refine lv_lconst (v := 0) hx hb dX12_as_13 (by decide) ?_
      refine lv_ldc2 (v := 4) hx hb hown (hts (.constantLong RX12 252 (4)) (by decide +kernel)) dX12_as_14 ?_
      refine hw_cR (va_runS (As := [.long x4, .long 0, .long 4]) (rest := []) ⟨hx, hb, hml, hown, hts⟩ (k_X12_in l D G x4 0 4 _) (va_cwS 3 hts gX12_as_X12_in rfl rfl rfl (by decide +kernel) ⟨Nat.le_of_ble_eq_true rfl, Nat.le_of_ble_eq_true rfl⟩) (hw_pS hH hK hST hS (by decide) (fun _ h => Or.inl h) trivial) rfl rfl hl.1 rfl (lv_room (Nat.le_of_ble_eq_true rfl)) dX12_as_17 ⟨Nat.le_of_ble_eq_true rfl, Nat.le_of_ble_eq_true rfl⟩) (fun v hp => ?_)
      have l8 : (0 : Int64).toInt = 0 := by decide
      have l9 : (4 : Int64).toInt = 4 := by decide
      rcases hp with ⟨rfl, q10⟩ | ⟨rfl, q11⟩
      · refine lv_if_ne (tgt := 26) hx hb dX12_as_20 (by decide) (fun c12 => ?_) (fun c12 => ?_)
        · refine lv_iload_n hx hb dX12_as_26 rfl (lv_at hl 2 rfl) ?_
          refine lv_if_eq (tgt := 57) hx hb dX12_as_27 (by decide) (fun c13 => ?_) (fun c13 => ?_)
          · have b14 : p2.toInt = 0 := hw_ieq c13
            refine lv_iconst (v := 1) hx hb dX12_as_57 (by decide) ?_
            refine lv_goto (tgt := 62) hx hb dX12_as_58 (by decide) ?_
            refine lv_istore_n (lv' := [(3, .int 1), (0, .ref h0), (1, .int p1), (2, .int p2)]) hx hb dX12_as_62 rfl hl (by decide) rfl (fun ls hl => ?_)
            refine lv_iload_n hx hb dX12_as_63 rfl (lv_at hl 0 rfl) ?_
            refine lv_if_eq (tgt := 80) hx hb dX12_as_64 (by decide) (fun c15 => ?_) (fun c15 => ?_)
            · exact absurd c15 (by decide)
            · refine lv_aload_n hx hb dX12_as_67 rfl (lv_at hl 1 rfl) ?_
              refine hw_get hx hb fg_17_11 hK vm rfl dX12_as_68 ?_
              refine lv_iload_n hx hb dX12_as_71 rfl (lv_at hl 2 rfl) ?_
              obtain ⟨f16, v17⟩ := hH.a44 (hw_RM_4 Rm)
              refine hw_iald hx hb hK v17 (hw_in (by omega) (by omega)) dX12_as_72 ?_
              refine lv_topi (fun x19 e20 => ?_)
              refine lv_iconst (v := 3) hx hb dX12_as_73 (by decide) ?_
              refine hw_cR (va_runS (As := [.int x19, .int 3]) (rest := []) ⟨hx, hb, hml, hown, hts⟩ (k_X12_roomBy l D G x19 3 _) (va_cwS 2 hts gX12_as_X12_roomBy rfl rfl rfl (by decide +kernel) ⟨Nat.le_of_ble_eq_true rfl, Nat.le_of_ble_eq_true rfl⟩) (hw_pS hH hK hST hS (by decide) (fun _ h => Or.inl h) trivial) rfl rfl hl.1 rfl (lv_room (Nat.le_of_ble_eq_true rfl)) dX12_as_74 ⟨Nat.le_of_ble_eq_true rfl, Nat.le_of_ble_eq_true rfl⟩) (fun v hp => ?_)
              obtain ⟨x21, rfl⟩ := hp
              refine lv_goto (tgt := 82) hx hb dX12_as_77 (by decide) ?_
              exact hw_iretR (v := x21) hx hb hr hlocks hQ rfl (⟨x21, rfl, (by first | rfl | trivial | assumption | omega | (intros; first | rfl | assumption | omega | (exfalso; omega)))⟩) dX12_as_82
          · have b22 : p2.toInt ≠ 0 := hw_ine c13
            refine lv_iload_n hx hb dX12_as_30 rfl (lv_at hl 2 rfl) ?_
            refine lv_aload_n hx hb dX12_as_31 rfl (lv_at hl 0 rfl) ?_
            refine hw_get hx hb fg_17_11 hK vm rfl dX12_as_32 ?_
            refine lv_iload_n hx hb dX12_as_35 rfl (lv_at hl 1 rfl) ?_
            obtain ⟨f23, v24⟩ := hH.a44 (hw_RM_4 Rm)
            refine hw_iald hx hb hK v24 (hw_in (by omega) (by omega)) dX12_as_36 ?_
            refine lv_topi (fun x26 e27 => ?_)
            refine lv_iconst (v := 1) hx hb dX12_as_37 (by decide) ?_
            refine lv_iadd hx hb dX12_as_38 ?_
            refine lv_topi (fun x28 e29 => ?_)
            refine lv_icmp_eq (tgt := 57) hx hb dX12_as_39 (by decide) (fun c30 => ?_) (fun c30 => ?_)
            · have b31 : p2.toInt = x28.toInt := hw_ieq c30
              refine lv_iconst (v := 1) hx hb dX12_as_57 (by decide) ?_
              refine lv_goto (tgt := 62) hx hb dX12_as_58 (by decide) ?_
              refine lv_istore_n (lv' := [(3, .int 1), (0, .ref h0), (1, .int p1), (2, .int p2)]) hx hb dX12_as_62 rfl hl (by decide) rfl (fun ls hl => ?_)
              refine lv_iload_n hx hb dX12_as_63 rfl (lv_at hl 0 rfl) ?_
              refine lv_if_eq (tgt := 80) hx hb dX12_as_64 (by decide) (fun c32 => ?_) (fun c32 => ?_)
              · exact absurd c32 (by decide)
              · refine lv_aload_n hx hb dX12_as_67 rfl (lv_at hl 1 rfl) ?_
                refine hw_get hx hb fg_17_11 hK vm rfl dX12_as_68 ?_
                refine lv_iload_n hx hb dX12_as_71 rfl (lv_at hl 2 rfl) ?_
                obtain ⟨f33, v34⟩ := hH.a44 (hw_RM_4 Rm)
                refine hw_iald hx hb hK v34 (hw_in (by omega) (by omega)) dX12_as_72 ?_
                refine lv_topi (fun x36 e37 => ?_)
                refine lv_iconst (v := 3) hx hb dX12_as_73 (by decide) ?_
                refine hw_cR (va_runS (As := [.int x36, .int 3]) (rest := []) ⟨hx, hb, hml, hown, hts⟩ (k_X12_roomBy l D G x36 3 _) (va_cwS 2 hts gX12_as_X12_roomBy rfl rfl rfl (by decide +kernel) ⟨Nat.le_of_ble_eq_true rfl, Nat.le_of_ble_eq_true rfl⟩) (hw_pS hH hK hST hS (by decide) (fun _ h => Or.inl h) trivial) rfl rfl hl.1 rfl (lv_room (Nat.le_of_ble_eq_true rfl)) dX12_as_74 ⟨Nat.le_of_ble_eq_true rfl, Nat.le_of_ble_eq_true rfl⟩) (fun v hp => ?_)
                obtain ⟨x38, rfl⟩ := hp
                refine lv_goto (tgt := 82) hx hb dX12_as_77 (by decide) ?_
                exact hw_iretR (v := x38) hx hb hr hlocks hQ rfl (⟨x38, rfl, (by first | rfl | trivial | assumption | omega | (intros; first | rfl | assumption | omega | (exfalso; omega)))⟩) dX12_as_82
            · have b39 : p2.toInt ≠ x28.toInt := hw_ine c30
              refine lv_iload_n hx hb dX12_as_42 rfl (lv_at hl 2 rfl) ?_
              refine lv_iconst (v := 1) hx hb dX12_as_43 (by decide) ?_
              refine lv_icmp_ne (tgt := 61) hx hb dX12_as_44 (by decide) (fun c40 => ?_) (fun c40 => ?_)
              · have b41 : p2.toInt ≠ 1 := hw_ine c40
                refine lv_iconst (v := 0) hx hb dX12_as_61 (by decide) ?_
                refine lv_istore_n (lv' := [(3, .int 0), (0, .ref h0), (1, .int p1), (2, .int p2)]) hx hb dX12_as_62 rfl hl (by decide) rfl (fun ls hl => ?_)
                refine lv_iload_n hx hb dX12_as_63 rfl (lv_at hl 0 rfl) ?_
                refine lv_if_eq (tgt := 80) hx hb dX12_as_64 (by decide) (fun c42 => ?_) (fun c42 => ?_)
                · refine lv_bipush (v := (-4)) hx hb dX12_as_80 (by decide) ?_
                  exact hw_iretR (v := (-4)) hx hb hr hlocks hQ rfl (⟨(-4), rfl, (by first | rfl | trivial | assumption | omega | (intros; first | rfl | assumption | omega | (exfalso; omega)))⟩) dX12_as_82
                · exact absurd c42 (by decide)
              · have b43 : p2.toInt = 1 := hw_ieq c40
                refine lv_aload_n hx hb dX12_as_47 rfl (lv_at hl 0 rfl) ?_
                refine hw_get hx hb fg_17_11 hK vm rfl dX12_as_48 ?_
                refine lv_iload_n hx hb dX12_as_51 rfl (lv_at hl 1 rfl) ?_
                obtain ⟨f44, v45⟩ := hH.a44 (hw_RM_4 Rm)
                refine hw_iald hx hb hK v45 (hw_in (by omega) (by omega)) dX12_as_52 ?_
                refine lv_topi (fun x47 e48 => ?_)
                refine lv_iconst (v := 3) hx hb dX12_as_53 (by decide) ?_
                refine lv_icmp_eq (tgt := 61) hx hb dX12_as_54 (by decide) (fun c49 => ?_) (fun c49 => ?_)
                · have b50 : x47.toInt = 3 := hw_ieq c49
                  refine lv_iconst (v := 0) hx hb dX12_as_61 (by decide) ?_
                  refine lv_istore_n (lv' := [(3, .int 0), (0, .ref h0), (1, .int p1), (2, .int p2)]) hx hb dX12_as_62 rfl hl (by decide) rfl (fun ls hl => ?_)
                  refine lv_iload_n hx hb dX12_as_63 rfl (lv_at hl 0 rfl) ?_
                  refine lv_if_eq (tgt := 80) hx hb dX12_as_64 (by decide) (fun c51 => ?_) (fun c51 => ?_)
                  · refine lv_bipush (v := (-4)) hx hb dX12_as_80 (by decide) ?_
                    exact hw_iretR (v := (-4)) hx hb hr hlocks hQ rfl (⟨(-4), rfl, (by first | rfl | trivial | assumption | omega | (intros; first | rfl | assumption | omega | (exfalso; omega)))⟩) dX12_as_82
                  · exact absurd c51 (by decide)
                · have b52 : x47.toInt ≠ 3 := hw_ine c49
                  refine lv_iconst (v := 1) hx hb dX12_as_57 (by decide) ?_
                  refine lv_goto (tgt := 62) hx hb dX12_as_58 (by decide) ?_
                  refine lv_istore_n (lv' := [(3, .int 1), (0, .ref h0), (1, .int p1), (2, .int p2)]) hx hb dX12_as_62 rfl hl (by decide) rfl (fun ls hl => ?_)
                  refine lv_iload_n hx hb dX12_as_63 rfl (lv_at hl 0 rfl) ?_
                  refine lv_if_eq (tgt := 80) hx hb dX12_as_64 (by decide) (fun c53 => ?_) (fun c53 => ?_)
                  · exact absurd c53 (by decide)
                  · refine lv_aload_n hx hb dX12_as_67 rfl (lv_at hl 1 rfl) ?_
                    refine hw_get hx hb fg_17_11 hK vm rfl dX12_as_68 ?_
                    refine lv_iload_n hx hb dX12_as_71 rfl (lv_at hl 2 rfl) ?_
                    obtain ⟨f54, v55⟩ := hH.a44 (hw_RM_4 Rm)
                    refine hw_iald hx hb hK v55 (hw_in (by omega) (by omega)) dX12_as_72 ?_
                    refine lv_topi (fun x57 e58 => ?_)
                    refine lv_iconst (v := 3) hx hb dX12_as_73 (by decide) ?_
                    refine hw_cR (va_runS (As := [.int x57, .int 3]) (rest := []) ⟨hx, hb, hml, hown, hts⟩ (k_X12_roomBy l D G x57 3 _) (va_cwS 2 hts gX12_as_X12_roomBy rfl rfl rfl (by decide +kernel) ⟨Nat.le_of_ble_eq_true rfl, Nat.le_of_ble_eq_true rfl⟩) (hw_pS hH hK hST hS (by decide) (fun _ h => Or.inl h) trivial) rfl rfl hl.1 rfl (lv_room (Nat.le_of_ble_eq_true rfl)) dX12_as_74 ⟨Nat.le_of_ble_eq_true rfl, Nat.le_of_ble_eq_true rfl⟩) (fun v hp => ?_)
                    obtain ⟨x59, rfl⟩ := hp
                    refine lv_goto (tgt := 82) hx hb dX12_as_77 (by decide) ?_
                    exact hw_iretR (v := x59) hx hb hr hlocks hQ rfl (⟨x59, rfl, (by first | rfl | trivial | assumption | omega | (intros; first | rfl | assumption | omega | (exfalso; omega)))⟩) dX12_as_82
        · exact absurd c12 (by decide)
      · refine lv_if_ne (tgt := 26) hx hb dX12_as_20 (by decide) (fun c60 => ?_) (fun c60 => ?_)
        · exact absurd c60 (by decide)
        · refine lv_bipush (v := (-3)) hx hb dX12_as_23 (by decide) ?_
          exact hw_iretR (v := (-3)) hx hb hr hlocks hQ rfl (⟨(-3), rfl, (by first | rfl | trivial | assumption | omega | (intros; first | rfl | assumption | omega | (exfalso; omega)))⟩) dX12_as_25
    · exact absurd c3 (by decide)
  · refine lv_if_ne (tgt := 11) hx hb dX12_as_5 (by decide) (fun c61 => ?_) (fun c61 => ?_)
    · exact absurd c61 (by decide)
    · refine lv_bipush (v := (-2)) hx hb dX12_as_8 (by decide) ?_
      exact hw_iretR (v := (-2)) hx hb hr hlocks hQ rfl (⟨(-2), rfl, (by first | rfl | trivial | assumption | omega | (intros; first | rfl | assumption | omega | (exfalso; omega)))⟩) dX12_as_10

set_option maxHeartbeats 4000000 in
set_option maxRecDepth 100000 in
theorem k_X12_keepPast (l : Launch) (D : hw_D) (G : Nat → Nat) (h0 : Nat) (sz : Nat) (rm : Nat → Nat) (ud_m ky_m lo_m wk_m dk_m ln_m sm_m fi_m be_m rk_m rl_m rw_m cl_m dg_m : Int32) (fro : Nat → Int32) (G0 : G h0 = 9) (Rm : hw_RM G rm) (gud_m : 0 ≤ ud_m.toInt ∧ ud_m.toInt ≤ 8) (gky_m : 0 ≤ ky_m.toInt ∧ ky_m.toInt ≤ 7) (glo_m : 0 ≤ lo_m.toInt ∧ lo_m.toInt ≤ 7) (gwk_m : 0 ≤ wk_m.toInt ∧ wk_m.toInt ≤ 3) (gln_m : 0 ≤ ln_m.toInt ∧ ln_m.toInt ≤ 200) (gsm_m : 0 ≤ sm_m.toInt ∧ sm_m.toInt ≤ 6) (gfi_m : 0 ≤ fi_m.toInt ∧ fi_m.toInt ≤ 200) (gbe_m : 0 ≤ be_m.toInt ∧ be_m.toInt ≤ 200) (grk_m : 0 ≤ rk_m.toInt ∧ rk_m.toInt ≤ 7) (grl_m : 0 ≤ rl_m.toInt ∧ rl_m.toInt ≤ 7) (grw_m : 0 ≤ rw_m.toInt ∧ rw_m.toInt ≤ 3) (gdg_m : 0 ≤ dg_m.toInt ∧ dg_m.toInt ≤ 1) : Met l yX12_keepPast wsX12_keepPast ({ frames := 0, cells := 0, slots := 0, locals := 0 } : Room) (hw_PC D G [.ref h0] sz (fun H => va_at D.1 vwCl (h0, .inr (11, hw_LM rm ud_m ky_m lo_m wk_m dk_m ln_m sm_m fi_m be_m rk_m rl_m rw_m cl_m dg_m)) H ∧ va_at D.1 vwCl ((rm 0), .inl (D.2.1 0, 253, .inl fro)) H)) (hw_QM (fun v H => ∃ (ud_m2 : Int32) (fro2 : Nat → Int32), v = none ∧ hw_HT D G H ∧ va_at D.1 vwCl (h0, .inr (11, hw_LM rm ud_m2 ky_m lo_m wk_m dk_m ln_m sm_m fi_m be_m rk_m rl_m rw_m cl_m dg_m)) H ∧ va_at D.1 vwCl ((rm 0), .inl (D.2.1 0, 253, .inl fro2)) H ∧ (0 ≤ ud_m2.toInt ∧ ud_m2.toInt ≤ 8) ∧ fro2 0 = fro 0) (hw_AW G [9, 40] sz)) 0 0 (hw_AW G [9, 40] sz) := by
  refine hw_met (cc := cX12_keepPast) (maxL := 2) (ret := none) (plainFor_of_name (by decide)) rfl (Nat.le_of_ble_eq_true rfl) ?_
  intro p e s m args below meth c QQ ls hsz hx hb hml hr hts hown hlocks hnm hH hK hST hF hQ hl
  subst hsz
  have hS : va_S (hw_AW G [9, 40] s.heap.size) s.heap s.heap [] := va_S.rf
  obtain ⟨vm, vro⟩ := hF
  have hl : lv_has ls 2 [(0, .ref h0)] := hl
  have u_11 : ∀ w ∈ u_ws RX12 TX12 45, w.before args s = true := fun w hw => hts w ((by decide +kernel : ∀ w ∈ u_ws RX12 TX12 45, w ∈ wsX12_keepPast) w hw)
  have fg_205_11 : hw_FG s args m 205 11 1 := ⟨RX12, "WardWalkersModel", RX12, TX12, 45, u_11, hown, rfl, by decide, (hts (.fieldLink RX12 205 "WardWalkersModel" "undos" "I") (by decide +kernel)), (fun _ h9 => h9)⟩
  have fp_205_11 : hw_FP s args m 205 11 1 false .int := ⟨RX12, "WardWalkersModel", RX12, TX12, 45, tyX12, u_11, hown, rfl, by decide, (hts (.fieldLink RX12 205 "WardWalkersModel" "undos" "I") (by decide +kernel)), (fun _ h9 => h9), tyX12_ok, nmX12, rfl, (fun h => by cases h), by decide +kernel⟩
  have fg_7_11 : hw_FG s args m 7 11 0 := ⟨RX12, "WardWalkersModel", RX12, TX12, 45, u_11, hown, rfl, by decide, (hts (.fieldLink RX12 7 "WardWalkersModel" "row" "[I") (by decide +kernel)), (fun _ h9 => h9)⟩
  refine lv_aload_n hx hb dX12_keepPast_0 rfl (lv_at hl 0 rfl) ?_
  refine hw_get hx hb fg_205_11 hK vm rfl dX12_keepPast_1 ?_
  refine lv_bipush (v := 8) hx hb dX12_keepPast_4 (by decide) ?_
  refine lv_icmp_ne (tgt := 52) hx hb dX12_keepPast_6 (by decide) (fun c1 => ?_) (fun c1 => ?_)
  · have b2 : ud_m.toInt ≠ 8 := hw_ine c1
    refine lv_iconst (v := 0) hx hb dX12_keepPast_52 (by decide) ?_
    refine lv_istore_n (lv' := [(1, .int 0), (0, .ref h0)]) hx hb dX12_keepPast_53 rfl hl (by decide) rfl (fun ls hl => ?_)
    have L54 : ∀ (n6 : Nat) (y1_3 : Int32) (f4 : Nat → Int32) (hm : (23 - y1_3.toInt).toNat < n6) (g5 : 0 ≤ y1_3.toInt ∧ y1_3.toInt ≤ 23) (inv54_0 : f4 0 = fro 0) (H : Heap) (locs : List Loc) (hH : hw_HT D G H) (vm : va_at D.1 vwCl (h0, .inr (11, hw_LM rm ud_m ky_m lo_m wk_m dk_m ln_m sm_m fi_m be_m rk_m rl_m rw_m cl_m dg_m)) H) (vro : va_at D.1 vwCl ((rm 0), .inl (D.2.1 0, 253, .inl f4)) H) (hS : va_S (hw_AW G [9, 40] s.heap.size) s.heap H locs) (ls : Array Slot) (hl : lv_has ls 2 [(1, .int y1_3), (0, .ref h0)]), W p l e ({ frames := 0, cells := 0, slots := 0, locals := 0 } : Room) s m args below meth c H locs 0 0 QQ (F0 m 54 ls []) := by
      intro n6
      induction n6 with
      | zero => intro y1_3 f4 hm; exact absurd hm (Nat.not_lt_zero _)
      | succ n6 ih54 =>
        intro y1_3 f4 hm g5 inv54_0 H locs hH vm vro hS ls hl
        refine lv_iload_n hx hb dX12_keepPast_54 rfl (lv_at hl 0 rfl) ?_
        refine lv_bipush (v := 23) hx hb dX12_keepPast_55 (by decide) ?_
        refine lv_icmp_ge (tgt := 89) hx hb dX12_keepPast_57 (by decide) (fun c7 => ?_) (fun c7 => ?_)
        · have b8 : 23 ≤ y1_3.toInt := hw_ile c7
          refine lv_aload_n hx hb dX12_keepPast_89 rfl (lv_at hl 1 rfl) ?_
          refine lv_dup hx hb dX12_keepPast_90 rfl ?_
          refine hw_get hx hb fg_205_11 hK vm rfl dX12_keepPast_91 ?_
          refine lv_iconst (v := 1) hx hb dX12_keepPast_94 (by decide) ?_
          refine lv_iadd hx hb dX12_keepPast_95 ?_
          refine lv_topi (fun x9 e10 => ?_)
          have t11 : x9.toInt = ud_m.toInt + 1 := by rw [e10]; exact hw_add rfl rfl (by omega) (by omega)
          refine hw_put (v := .int x9) (fs' := hw_LM rm x9 ky_m lo_m wk_m dk_m ln_m sm_m fi_m be_m rk_m rl_m rw_m cl_m dg_m) hx hb fp_205_11 hK hH vm (Nat.le_of_ble_eq_true rfl) rfl rfl rfl (fun _ => by rw [G0]; exact ⟨rm, x9, ky_m, lo_m, wk_m, dk_m, ln_m, sm_m, fi_m, be_m, rk_m, rl_m, rw_m, cl_m, dg_m, rfl, Rm, ⟨by first | decide | omega, by first | decide | omega⟩, ⟨by first | decide | omega, by first | decide | omega⟩, ⟨by first | decide | omega, by first | decide | omega⟩, ⟨by first | decide | omega, by first | decide | omega⟩, ⟨by first | decide | omega, by first | decide | omega⟩, ⟨by first | decide | omega, by first | decide | omega⟩, ⟨by first | decide | omega, by first | decide | omega⟩, ⟨by first | decide | omega, by first | decide | omega⟩, ⟨by first | decide | omega, by first | decide | omega⟩, ⟨by first | decide | omega, by first | decide | omega⟩, ⟨by first | decide | omega, by first | decide | omega⟩, ⟨by first | decide | omega, by first | decide | omega⟩⟩) hS (hw_AWi G0 (by decide)) dX12_keepPast_96 (fun H locs hH vm oq hz hS => ?_)
          have vro := va_at.kept vro (oq _ (hw_ne (hw_RM_0 Rm) G0 (by decide)))
          exact hw_vretM hx hb hr hlocks hQ hS (⟨x9, f4, rfl, hH, vm, vro, ⟨by first | decide | omega, by first | decide | omega⟩, (by assumption)⟩) dX12_keepPast_99
        · have b12 : y1_3.toInt < 23 := hw_inle c7
          refine lv_aload_n hx hb dX12_keepPast_60 rfl (lv_at hl 1 rfl) ?_
          refine hw_get hx hb fg_7_11 hK vm rfl dX12_keepPast_61 ?_
          refine lv_bipush (v := 23) hx hb dX12_keepPast_64 (by decide) ?_
          refine lv_bipush (v := 23) hx hb dX12_keepPast_66 (by decide) ?_
          refine lv_aload_n hx hb dX12_keepPast_68 rfl (lv_at hl 1 rfl) ?_
          refine hw_get hx hb fg_205_11 hK vm rfl dX12_keepPast_69 ?_
          refine lv_imul hx hb dX12_keepPast_72 ?_
          refine lv_topi (fun x13 e14 => ?_)
          have t15 : x13.toInt = 23 * ud_m.toInt := by rw [e14]; exact hw_mul rfl rfl (by omega) (by omega)
          refine lv_iadd hx hb dX12_keepPast_73 ?_
          refine lv_topi (fun x16 e17 => ?_)
          have t18 : x16.toInt = 23 + x13.toInt := by rw [e17]; exact hw_add rfl rfl (by omega) (by omega)
          refine lv_iload_n hx hb dX12_keepPast_74 rfl (lv_at hl 0 rfl) ?_
          refine lv_iadd hx hb dX12_keepPast_75 ?_
          refine lv_topi (fun x19 e20 => ?_)
          have t21 : x19.toInt = x16.toInt + y1_3.toInt := by rw [e20]; exact hw_add rfl rfl (by omega) (by omega)
          refine lv_aload_n hx hb dX12_keepPast_76 rfl (lv_at hl 1 rfl) ?_
          refine hw_get hx hb fg_7_11 hK vm rfl dX12_keepPast_77 ?_
          refine lv_iload_n hx hb dX12_keepPast_80 rfl (lv_at hl 0 rfl) ?_
          refine hw_iald hx hb hK vro (hw_in (by omega) (by omega)) dX12_keepPast_81 ?_
          refine lv_topi (fun x22 e23 => ?_)
          refine hw_iast hx hb hK hH vro (hw_in (by omega) (by omega)) (fun _ => by rw [(hw_RM_0 Rm)]; exact ⟨_, rfl⟩) hS (hw_AWi (hw_RM_0 Rm) (by decide)) dX12_keepPast_82 (fun H locs hH vro oq hz hS => ?_)
          have vm := va_at.kept vm (oq _ (hw_ne G0 (hw_RM_0 Rm) (by decide)))
          obtain ⟨f24, e25⟩ : ∃ z, z = upd f4 x19.toNatClampNeg x22 := ⟨_, rfl⟩
          rw [← e25] at vro
          obtain ⟨x26, e27⟩ : ∃ y : Int32, y = y1_3 + 1 := ⟨_, rfl⟩
          refine lv_iinc (v := x26) (lv' := [(1, .int x26), (0, .ref h0)]) hx hb dX12_keepPast_83 hl (k := 0) rfl (by rw [e27]; rfl) (by decide) rfl (fun ls hl => ?_)
          have t28 : x26.toInt = y1_3.toInt + 1 := by rw [e27]; exact hw_add rfl rfl (by omega) (by omega)
          refine lv_goto (tgt := 54) hx hb dX12_keepPast_86 (by decide) ?_
          exact ih54 x26 f24 (by first | omega | omega) ⟨by first | decide | omega, by first | decide | omega⟩ (by rw [e25]; refine (hw_upd0 ?_).trans inv54_0; omega) _ _ hH vm vro hS _ (lv_sub hl [0, 1] rfl)
    exact L54 _ 0 fro (Nat.lt_succ_self _) ⟨by first | decide | omega, by first | decide | omega⟩ (by first | rfl | assumption) _ _ hH vm vro hS _ (lv_sub hl [0, 1] rfl)
  · have b29 : ud_m.toInt = 8 := hw_ieq c1
    refine lv_iconst (v := 0) hx hb dX12_keepPast_9 (by decide) ?_
    refine lv_istore_n (lv' := [(1, .int 0), (0, .ref h0)]) hx hb dX12_keepPast_10 rfl hl (by decide) rfl (fun ls hl => ?_)
    have L11 : ∀ (n33 : Nat) (y1_30 : Int32) (f31 : Nat → Int32) (hm : (161 - y1_30.toInt).toNat < n33) (g32 : 0 ≤ y1_30.toInt ∧ y1_30.toInt ≤ 161) (inv11_0 : f31 0 = fro 0) (H : Heap) (locs : List Loc) (hH : hw_HT D G H) (vm : va_at D.1 vwCl (h0, .inr (11, hw_LM rm ud_m ky_m lo_m wk_m dk_m ln_m sm_m fi_m be_m rk_m rl_m rw_m cl_m dg_m)) H) (vro : va_at D.1 vwCl ((rm 0), .inl (D.2.1 0, 253, .inl f31)) H) (hS : va_S (hw_AW G [9, 40] s.heap.size) s.heap H locs) (ls : Array Slot) (hl : lv_has ls 2 [(1, .int y1_30), (0, .ref h0)]), W p l e ({ frames := 0, cells := 0, slots := 0, locals := 0 } : Room) s m args below meth c H locs 0 0 QQ (F0 m 11 ls []) := by
      intro n33
      induction n33 with
      | zero => intro y1_30 f31 hm; exact absurd hm (Nat.not_lt_zero _)
      | succ n33 ih11 =>
        intro y1_30 f31 hm g32 inv11_0 H locs hH vm vro hS ls hl
        refine lv_iload_n hx hb dX12_keepPast_11 rfl (lv_at hl 0 rfl) ?_
        refine lv_sipush (v := 161) hx hb dX12_keepPast_12 (by decide) ?_
        refine lv_icmp_ge (tgt := 42) hx hb dX12_keepPast_15 (by decide) (fun c34 => ?_) (fun c34 => ?_)
        · have b35 : 161 ≤ y1_30.toInt := hw_ile c34
          refine lv_aload_n hx hb dX12_keepPast_42 rfl (lv_at hl 1 rfl) ?_
          refine lv_dup hx hb dX12_keepPast_43 rfl ?_
          refine hw_get hx hb fg_205_11 hK vm rfl dX12_keepPast_44 ?_
          refine lv_iconst (v := 1) hx hb dX12_keepPast_47 (by decide) ?_
          refine lv_isub hx hb dX12_keepPast_48 ?_
          refine lv_topi (fun x36 e37 => ?_)
          have t38 : x36.toInt = ud_m.toInt - 1 := by rw [e37]; exact hw_sub rfl rfl (by omega) (by omega)
          refine hw_put (v := .int x36) (fs' := hw_LM rm x36 ky_m lo_m wk_m dk_m ln_m sm_m fi_m be_m rk_m rl_m rw_m cl_m dg_m) hx hb fp_205_11 hK hH vm (Nat.le_of_ble_eq_true rfl) rfl rfl rfl (fun _ => by rw [G0]; exact ⟨rm, x36, ky_m, lo_m, wk_m, dk_m, ln_m, sm_m, fi_m, be_m, rk_m, rl_m, rw_m, cl_m, dg_m, rfl, Rm, ⟨by first | decide | omega, by first | decide | omega⟩, ⟨by first | decide | omega, by first | decide | omega⟩, ⟨by first | decide | omega, by first | decide | omega⟩, ⟨by first | decide | omega, by first | decide | omega⟩, ⟨by first | decide | omega, by first | decide | omega⟩, ⟨by first | decide | omega, by first | decide | omega⟩, ⟨by first | decide | omega, by first | decide | omega⟩, ⟨by first | decide | omega, by first | decide | omega⟩, ⟨by first | decide | omega, by first | decide | omega⟩, ⟨by first | decide | omega, by first | decide | omega⟩, ⟨by first | decide | omega, by first | decide | omega⟩, ⟨by first | decide | omega, by first | decide | omega⟩⟩) hS (hw_AWi G0 (by decide)) dX12_keepPast_49 (fun H locs hH vm oq hz hS => ?_)
          have vro := va_at.kept vro (oq _ (hw_ne (hw_RM_0 Rm) G0 (by decide)))
          refine lv_iconst (v := 0) hx hb dX12_keepPast_52 (by decide) ?_
          refine lv_istore_n (lv' := [(1, .int 0), (0, .ref h0)]) hx hb dX12_keepPast_53 rfl hl (by decide) rfl (fun ls hl => ?_)
          have L54 : ∀ (n42 : Nat) (y1_39 : Int32) (f40 : Nat → Int32) (hm : (23 - y1_39.toInt).toNat < n42) (g41 : 0 ≤ y1_39.toInt ∧ y1_39.toInt ≤ 23) (inv54_0 : f40 0 = fro 0) (H : Heap) (locs : List Loc) (hH : hw_HT D G H) (vm : va_at D.1 vwCl (h0, .inr (11, hw_LM rm x36 ky_m lo_m wk_m dk_m ln_m sm_m fi_m be_m rk_m rl_m rw_m cl_m dg_m)) H) (vro : va_at D.1 vwCl ((rm 0), .inl (D.2.1 0, 253, .inl f40)) H) (hS : va_S (hw_AW G [9, 40] s.heap.size) s.heap H locs) (ls : Array Slot) (hl : lv_has ls 2 [(1, .int y1_39), (0, .ref h0)]), W p l e ({ frames := 0, cells := 0, slots := 0, locals := 0 } : Room) s m args below meth c H locs 0 0 QQ (F0 m 54 ls []) := by
            intro n42
            induction n42 with
            | zero => intro y1_39 f40 hm; exact absurd hm (Nat.not_lt_zero _)
            | succ n42 ih54 =>
              intro y1_39 f40 hm g41 inv54_0 H locs hH vm vro hS ls hl
              refine lv_iload_n hx hb dX12_keepPast_54 rfl (lv_at hl 0 rfl) ?_
              refine lv_bipush (v := 23) hx hb dX12_keepPast_55 (by decide) ?_
              refine lv_icmp_ge (tgt := 89) hx hb dX12_keepPast_57 (by decide) (fun c43 => ?_) (fun c43 => ?_)
              · have b44 : 23 ≤ y1_39.toInt := hw_ile c43
                refine lv_aload_n hx hb dX12_keepPast_89 rfl (lv_at hl 1 rfl) ?_
                refine lv_dup hx hb dX12_keepPast_90 rfl ?_
                refine hw_get hx hb fg_205_11 hK vm rfl dX12_keepPast_91 ?_
                refine lv_iconst (v := 1) hx hb dX12_keepPast_94 (by decide) ?_
                refine lv_iadd hx hb dX12_keepPast_95 ?_
                refine lv_topi (fun x45 e46 => ?_)
                have t47 : x45.toInt = x36.toInt + 1 := by rw [e46]; exact hw_add rfl rfl (by omega) (by omega)
                refine hw_put (v := .int x45) (fs' := hw_LM rm x45 ky_m lo_m wk_m dk_m ln_m sm_m fi_m be_m rk_m rl_m rw_m cl_m dg_m) hx hb fp_205_11 hK hH vm (Nat.le_of_ble_eq_true rfl) rfl rfl rfl (fun _ => by rw [G0]; exact ⟨rm, x45, ky_m, lo_m, wk_m, dk_m, ln_m, sm_m, fi_m, be_m, rk_m, rl_m, rw_m, cl_m, dg_m, rfl, Rm, ⟨by first | decide | omega, by first | decide | omega⟩, ⟨by first | decide | omega, by first | decide | omega⟩, ⟨by first | decide | omega, by first | decide | omega⟩, ⟨by first | decide | omega, by first | decide | omega⟩, ⟨by first | decide | omega, by first | decide | omega⟩, ⟨by first | decide | omega, by first | decide | omega⟩, ⟨by first | decide | omega, by first | decide | omega⟩, ⟨by first | decide | omega, by first | decide | omega⟩, ⟨by first | decide | omega, by first | decide | omega⟩, ⟨by first | decide | omega, by first | decide | omega⟩, ⟨by first | decide | omega, by first | decide | omega⟩, ⟨by first | decide | omega, by first | decide | omega⟩⟩) hS (hw_AWi G0 (by decide)) dX12_keepPast_96 (fun H locs hH vm oq hz hS => ?_)
                have vro := va_at.kept vro (oq _ (hw_ne (hw_RM_0 Rm) G0 (by decide)))
                exact hw_vretM hx hb hr hlocks hQ hS (⟨x45, f40, rfl, hH, vm, vro, ⟨by first | decide | omega, by first | decide | omega⟩, (by assumption)⟩) dX12_keepPast_99
              · have b48 : y1_39.toInt < 23 := hw_inle c43
                refine lv_aload_n hx hb dX12_keepPast_60 rfl (lv_at hl 1 rfl) ?_
                refine hw_get hx hb fg_7_11 hK vm rfl dX12_keepPast_61 ?_
                refine lv_bipush (v := 23) hx hb dX12_keepPast_64 (by decide) ?_
                refine lv_bipush (v := 23) hx hb dX12_keepPast_66 (by decide) ?_
                refine lv_aload_n hx hb dX12_keepPast_68 rfl (lv_at hl 1 rfl) ?_
                refine hw_get hx hb fg_205_11 hK vm rfl dX12_keepPast_69 ?_
                refine lv_imul hx hb dX12_keepPast_72 ?_
                refine lv_topi (fun x49 e50 => ?_)
                have t51 : x49.toInt = 23 * x36.toInt := by rw [e50]; exact hw_mul rfl rfl (by omega) (by omega)
                refine lv_iadd hx hb dX12_keepPast_73 ?_
                refine lv_topi (fun x52 e53 => ?_)
                have t54 : x52.toInt = 23 + x49.toInt := by rw [e53]; exact hw_add rfl rfl (by omega) (by omega)
                refine lv_iload_n hx hb dX12_keepPast_74 rfl (lv_at hl 0 rfl) ?_
                refine lv_iadd hx hb dX12_keepPast_75 ?_
                refine lv_topi (fun x55 e56 => ?_)
                have t57 : x55.toInt = x52.toInt + y1_39.toInt := by rw [e56]; exact hw_add rfl rfl (by omega) (by omega)
                refine lv_aload_n hx hb dX12_keepPast_76 rfl (lv_at hl 1 rfl) ?_
                refine hw_get hx hb fg_7_11 hK vm rfl dX12_keepPast_77 ?_
                refine lv_iload_n hx hb dX12_keepPast_80 rfl (lv_at hl 0 rfl) ?_
                refine hw_iald hx hb hK vro (hw_in (by omega) (by omega)) dX12_keepPast_81 ?_
                refine lv_topi (fun x58 e59 => ?_)
                refine hw_iast hx hb hK hH vro (hw_in (by omega) (by omega)) (fun _ => by rw [(hw_RM_0 Rm)]; exact ⟨_, rfl⟩) hS (hw_AWi (hw_RM_0 Rm) (by decide)) dX12_keepPast_82 (fun H locs hH vro oq hz hS => ?_)
                have vm := va_at.kept vm (oq _ (hw_ne G0 (hw_RM_0 Rm) (by decide)))
                obtain ⟨f60, e61⟩ : ∃ z, z = upd f40 x55.toNatClampNeg x58 := ⟨_, rfl⟩
                rw [← e61] at vro
                obtain ⟨x62, e63⟩ : ∃ y : Int32, y = y1_39 + 1 := ⟨_, rfl⟩
                refine lv_iinc (v := x62) (lv' := [(1, .int x62), (0, .ref h0)]) hx hb dX12_keepPast_83 hl (k := 0) rfl (by rw [e63]; rfl) (by decide) rfl (fun ls hl => ?_)
                have t64 : x62.toInt = y1_39.toInt + 1 := by rw [e63]; exact hw_add rfl rfl (by omega) (by omega)
                refine lv_goto (tgt := 54) hx hb dX12_keepPast_86 (by decide) ?_
                exact ih54 x62 f60 (by first | omega | omega) ⟨by first | decide | omega, by first | decide | omega⟩ (by rw [e61]; refine (hw_upd0 ?_).trans inv54_0; omega) _ _ hH vm vro hS _ (lv_sub hl [0, 1] rfl)
          exact L54 _ 0 f31 (Nat.lt_succ_self _) ⟨by first | decide | omega, by first | decide | omega⟩ (by first | rfl | assumption) _ _ hH vm vro hS _ (lv_sub hl [0, 1] rfl)
        · have b65 : y1_30.toInt < 161 := hw_inle c34
          refine lv_aload_n hx hb dX12_keepPast_18 rfl (lv_at hl 1 rfl) ?_
          refine hw_get hx hb fg_7_11 hK vm rfl dX12_keepPast_19 ?_
          refine lv_bipush (v := 23) hx hb dX12_keepPast_22 (by decide) ?_
          refine lv_iload_n hx hb dX12_keepPast_24 rfl (lv_at hl 0 rfl) ?_
          refine lv_iadd hx hb dX12_keepPast_25 ?_
          refine lv_topi (fun x66 e67 => ?_)
          have t68 : x66.toInt = 23 + y1_30.toInt := by rw [e67]; exact hw_add rfl rfl (by omega) (by omega)
          refine lv_aload_n hx hb dX12_keepPast_26 rfl (lv_at hl 1 rfl) ?_
          refine hw_get hx hb fg_7_11 hK vm rfl dX12_keepPast_27 ?_
          refine lv_bipush (v := 46) hx hb dX12_keepPast_30 (by decide) ?_
          refine lv_iload_n hx hb dX12_keepPast_32 rfl (lv_at hl 0 rfl) ?_
          refine lv_iadd hx hb dX12_keepPast_33 ?_
          refine lv_topi (fun x69 e70 => ?_)
          have t71 : x69.toInt = 46 + y1_30.toInt := by rw [e70]; exact hw_add rfl rfl (by omega) (by omega)
          refine hw_iald hx hb hK vro (hw_in (by omega) (by omega)) dX12_keepPast_34 ?_
          refine lv_topi (fun x72 e73 => ?_)
          refine hw_iast hx hb hK hH vro (hw_in (by omega) (by omega)) (fun _ => by rw [(hw_RM_0 Rm)]; exact ⟨_, rfl⟩) hS (hw_AWi (hw_RM_0 Rm) (by decide)) dX12_keepPast_35 (fun H locs hH vro oq hz hS => ?_)
          have vm := va_at.kept vm (oq _ (hw_ne G0 (hw_RM_0 Rm) (by decide)))
          obtain ⟨f74, e75⟩ : ∃ z, z = upd f31 x66.toNatClampNeg x72 := ⟨_, rfl⟩
          rw [← e75] at vro
          obtain ⟨x76, e77⟩ : ∃ y : Int32, y = y1_30 + 1 := ⟨_, rfl⟩
          refine lv_iinc (v := x76) (lv' := [(1, .int x76), (0, .ref h0)]) hx hb dX12_keepPast_36 hl (k := 0) rfl (by rw [e77]; rfl) (by decide) rfl (fun ls hl => ?_)
          have t78 : x76.toInt = y1_30.toInt + 1 := by rw [e77]; exact hw_add rfl rfl (by omega) (by omega)
          refine lv_goto (tgt := 11) hx hb dX12_keepPast_39 (by decide) ?_
          exact ih11 x76 f74 (by first | omega | omega) ⟨by first | decide | omega, by first | decide | omega⟩ (by rw [e75]; refine (hw_upd0 ?_).trans inv11_0; omega) _ _ hH vm vro hS _ (lv_sub hl [0, 1] rfl)
    exact L11 _ 0 fro (Nat.lt_succ_self _) ⟨by first | decide | omega, by first | decide | omega⟩ (by rfl) _ _ hH vm vro hS _ (lv_sub hl [0, 1] rfl)

set_option maxHeartbeats 4000000 in
set_option maxRecDepth 100000 in
theorem k_X12_tries (l : Launch) (D : hw_D) (G : Nat → Nat) (h0 : Nat) (p1 : Int32) (p2 : Int32) (p3 : Int32) (sz : Nat) (rm : Nat → Nat) (ud_m ky_m lo_m wk_m dk_m ln_m sm_m fi_m be_m rk_m rl_m rw_m cl_m dg_m : Int32) (G0 : G h0 = 9) (Rm : hw_RM G rm) (gud_m : 0 ≤ ud_m.toInt ∧ ud_m.toInt ≤ 8) (gky_m : 0 ≤ ky_m.toInt ∧ ky_m.toInt ≤ 7) (glo_m : 0 ≤ lo_m.toInt ∧ lo_m.toInt ≤ 7) (gwk_m : 0 ≤ wk_m.toInt ∧ wk_m.toInt ≤ 3) (gln_m : 0 ≤ ln_m.toInt ∧ ln_m.toInt ≤ 200) (gsm_m : 0 ≤ sm_m.toInt ∧ sm_m.toInt ≤ 6) (gfi_m : 0 ≤ fi_m.toInt ∧ fi_m.toInt ≤ 200) (gbe_m : 0 ≤ be_m.toInt ∧ be_m.toInt ≤ 200) (grk_m : 0 ≤ rk_m.toInt ∧ rk_m.toInt ≤ 7) (grl_m : 0 ≤ rl_m.toInt ∧ rl_m.toInt ≤ 7) (grw_m : 0 ≤ rw_m.toInt ∧ rw_m.toInt ≤ 3) (gdg_m : 0 ≤ dg_m.toInt ∧ dg_m.toInt ≤ 1) : Met l yX12_tries wsX12_tries ({ frames := 5, cells := 0, slots := 0, locals := 114 } : Room) (hw_PC D G [.ref h0, .int p1, .int p2, .int p3] sz (fun H => va_at D.1 vwCl (h0, .inr (11, hw_LM rm ud_m ky_m lo_m wk_m dk_m ln_m sm_m fi_m be_m rk_m rl_m rw_m cl_m dg_m)) H)) (hw_QM (fun v H => ∃ (r : Int32) (ud_m2 : Int32), v = some (.int r) ∧ hw_HT D G H ∧ va_at D.1 vwCl (h0, .inr (11, hw_LM rm ud_m2 ky_m lo_m wk_m dk_m ln_m sm_m fi_m be_m rk_m rl_m rw_m cl_m dg_m)) H ∧ (0 ≤ ud_m2.toInt ∧ ud_m2.toInt ≤ 8) ∧ (ky_m.toInt = 0 → r.toInt = -2)) (hw_AW G [9, 40] sz)) 0 0 (hw_AW G [9, 40] sz) := by
  refine hw_met (cc := cX12_tries) (maxL := 5) (ret := (some .int)) (plainFor_of_name (by decide)) rfl (Nat.le_of_ble_eq_true rfl) ?_
  intro p e s m args below meth c QQ ls hsz hx hb hml hr hts hown hlocks hnm hH hK hST hF hQ hl
  subst hsz
  have hS : va_S (hw_AW G [9, 40] s.heap.size) s.heap s.heap [] := va_S.rf
  have vm := hF
  have hl : lv_has ls 5 [(0, .ref h0), (1, .int p1), (2, .int p2), (3, .int p3)] := hl
  have u_11 : ∀ w ∈ u_ws RX12 TX12 45, w.before args s = true := fun w hw => hts w ((by decide +kernel : ∀ w ∈ u_ws RX12 TX12 45, w ∈ wsX12_tries) w hw)
  have fg_7_11 : hw_FG s args m 7 11 0 := ⟨RX12, "WardWalkersModel", RX12, TX12, 45, u_11, hown, rfl, by decide, (hts (.fieldLink RX12 7 "WardWalkersModel" "row" "[I") (by decide +kernel)), (fun _ h9 => h9)⟩
  have fg_26_11 : hw_FG s args m 26 11 8 := ⟨RX12, "WardWalkersModel", RX12, TX12, 45, u_11, hown, rfl, by decide, (hts (.fieldLink RX12 26 "WardWalkersModel" "places" "[I") (by decide +kernel)), (fun _ h9 => h9)⟩
  have fg_41_11 : hw_FG s args m 41 11 14 := ⟨RX12, "WardWalkersModel", RX12, TX12, 45, u_11, hown, rfl, by decide, (hts (.fieldLink RX12 41 "WardWalkersModel" "dark" "I") (by decide +kernel)), (fun _ h9 => h9)⟩
  have fg_35_11 : hw_FG s args m 35 11 11 := ⟨RX12, "WardWalkersModel", RX12, TX12, 45, u_11, hown, rfl, by decide, (hts (.fieldLink RX12 35 "WardWalkersModel" "values" "[I") (by decide +kernel)), (fun _ h9 => h9)⟩
  have fg_17_11 : hw_FG s args m 17 11 4 := ⟨RX12, "WardWalkersModel", RX12, TX12, 45, u_11, hown, rfl, by decide, (hts (.fieldLink RX12 17 "WardWalkersModel" "kinds" "[I") (by decide +kernel)), (fun _ h9 => h9)⟩
  have fg_29_11 : hw_FG s args m 29 11 9 := ⟨RX12, "WardWalkersModel", RX12, TX12, 45, u_11, hown, rfl, by decide, (hts (.fieldLink RX12 29 "WardWalkersModel" "wanted" "[I") (by decide +kernel)), (fun _ h9 => h9)⟩
  refine lv_aload_n hx hb dX12_tries_0 rfl (lv_at hl 0 rfl) ?_
  refine lv_iload_n hx hb dX12_tries_1 rfl (lv_at hl 1 rfl) ?_
  refine hw_cR (va_runV (As := [.int p1]) (rest := []) ⟨hx, hb, hml, hown, hts⟩ (k_X12_isWalker l D G h0 p1 _ rm ud_m ky_m lo_m wk_m dk_m ln_m sm_m fi_m be_m rk_m rl_m rw_m cl_m dg_m G0 Rm ⟨by first | decide | omega, by first | decide | omega⟩ ⟨by first | decide | omega, by first | decide | omega⟩ ⟨by first | decide | omega, by first | decide | omega⟩ ⟨by first | decide | omega, by first | decide | omega⟩ ⟨by first | decide | omega, by first | decide | omega⟩ ⟨by first | decide | omega, by first | decide | omega⟩ ⟨by first | decide | omega, by first | decide | omega⟩ ⟨by first | decide | omega, by first | decide | omega⟩ ⟨by first | decide | omega, by first | decide | omega⟩ ⟨by first | decide | omega, by first | decide | omega⟩ ⟨by first | decide | omega, by first | decide | omega⟩ ⟨by first | decide | omega, by first | decide | omega⟩) (cwV 1 hts gX12_tries_X12_isWalker rfl rfl rfl (by decide +kernel) ⟨Nat.le_of_ble_eq_true rfl, Nat.le_of_ble_eq_true rfl⟩) (hw_pV (hw_rc (q := (RX12, TX12, 45)) hK vm rfl) hH hK hST hS (by decide) (fun _ h => Or.inl h) vm) rfl rfl hl.1 rfl (lv_room (Nat.le_of_ble_eq_true rfl)) dX12_tries_2 ⟨Nat.le_of_ble_eq_true rfl, Nat.le_of_ble_eq_true rfl⟩) (fun v hp => ?_)
  rcases hp with ⟨rfl, q1⟩ | ⟨rfl, q2⟩
  · refine lv_if_eq (tgt := 24) hx hb dX12_tries_5 (by decide) (fun c3 => ?_) (fun c3 => ?_)
    · exact absurd c3 (by decide)
    · refine lv_aload_n hx hb dX12_tries_8 rfl (lv_at hl 0 rfl) ?_
      refine lv_iload_n hx hb dX12_tries_9 rfl (lv_at hl 2 rfl) ?_
      refine hw_cR (va_runV (As := [.int p2]) (rest := []) ⟨hx, hb, hml, hown, hts⟩ (k_X12_isKey l D G h0 p2 _ rm ud_m ky_m lo_m wk_m dk_m ln_m sm_m fi_m be_m rk_m rl_m rw_m cl_m dg_m G0 Rm ⟨by first | decide | omega, by first | decide | omega⟩ ⟨by first | decide | omega, by first | decide | omega⟩ ⟨by first | decide | omega, by first | decide | omega⟩ ⟨by first | decide | omega, by first | decide | omega⟩ ⟨by first | decide | omega, by first | decide | omega⟩ ⟨by first | decide | omega, by first | decide | omega⟩ ⟨by first | decide | omega, by first | decide | omega⟩ ⟨by first | decide | omega, by first | decide | omega⟩ ⟨by first | decide | omega, by first | decide | omega⟩ ⟨by first | decide | omega, by first | decide | omega⟩ ⟨by first | decide | omega, by first | decide | omega⟩ ⟨by first | decide | omega, by first | decide | omega⟩) (cwV 1 hts gX12_tries_X12_isKey rfl rfl rfl (by decide +kernel) ⟨Nat.le_of_ble_eq_true rfl, Nat.le_of_ble_eq_true rfl⟩) (hw_pV (hw_rc (q := (RX12, TX12, 45)) hK vm rfl) hH hK hST hS (by decide) (fun _ h => Or.inl h) vm) rfl rfl hl.1 rfl (lv_room (Nat.le_of_ble_eq_true rfl)) dX12_tries_10 ⟨Nat.le_of_ble_eq_true rfl, Nat.le_of_ble_eq_true rfl⟩) (fun v hp => ?_)
      rcases hp with ⟨rfl, q4⟩ | ⟨rfl, q5⟩
      · refine lv_if_eq (tgt := 24) hx hb dX12_tries_13 (by decide) (fun c6 => ?_) (fun c6 => ?_)
        · exact absurd c6 (by decide)
        · refine lv_aload_n hx hb dX12_tries_16 rfl (lv_at hl 0 rfl) ?_
          refine lv_iload_n hx hb dX12_tries_17 rfl (lv_at hl 3 rfl) ?_
          refine hw_cR (va_runV (As := [.int p3]) (rest := []) ⟨hx, hb, hml, hown, hts⟩ (k_X12_isLock l D G h0 p3 _ rm ud_m ky_m lo_m wk_m dk_m ln_m sm_m fi_m be_m rk_m rl_m rw_m cl_m dg_m G0 Rm ⟨by first | decide | omega, by first | decide | omega⟩ ⟨by first | decide | omega, by first | decide | omega⟩ ⟨by first | decide | omega, by first | decide | omega⟩ ⟨by first | decide | omega, by first | decide | omega⟩ ⟨by first | decide | omega, by first | decide | omega⟩ ⟨by first | decide | omega, by first | decide | omega⟩ ⟨by first | decide | omega, by first | decide | omega⟩ ⟨by first | decide | omega, by first | decide | omega⟩ ⟨by first | decide | omega, by first | decide | omega⟩ ⟨by first | decide | omega, by first | decide | omega⟩ ⟨by first | decide | omega, by first | decide | omega⟩ ⟨by first | decide | omega, by first | decide | omega⟩) (cwV 1 hts gX12_tries_X12_isLock rfl rfl rfl (by decide +kernel) ⟨Nat.le_of_ble_eq_true rfl, Nat.le_of_ble_eq_true rfl⟩) (hw_pV (hw_rc (q := (RX12, TX12, 45)) hK vm rfl) hH hK hST hS (by decide) (fun _ h => Or.inl h) vm) rfl rfl hl.1 rfl (lv_room (Nat.le_of_ble_eq_true rfl)) dX12_tries_18 ⟨Nat.le_of_ble_eq_true rfl, Nat.le_of_ble_eq_true rfl⟩) (fun v hp => ?_)
          rcases hp with ⟨rfl, q7⟩ | ⟨rfl, q8⟩
          · refine lv_if_ne (tgt := 27) hx hb dX12_tries_21 (by decide) (fun c9 => ?_) (fun c9 => ?_)
            · refine lv_aload_n hx hb dX12_tries_27 rfl (lv_at hl 0 rfl) ?_
              refine hw_get hx hb fg_7_11 hK vm rfl dX12_tries_28 ?_
              refine lv_bipush (v := 20) hx hb dX12_tries_31 (by decide) ?_
              refine lv_iload_n hx hb dX12_tries_33 rfl (lv_at hl 1 rfl) ?_
              refine lv_iadd hx hb dX12_tries_34 ?_
              refine lv_topi (fun x10 e11 => ?_)
              have t12 : x10.toInt = 20 + p1.toInt := by rw [e11]; exact hw_add rfl rfl (by omega) (by omega)
              obtain ⟨f13, v14⟩ := hH.a40 (hw_RM_0 Rm)
              refine hw_iald hx hb hK v14 (hw_in (by omega) (by omega)) dX12_tries_35 ?_
              refine lv_topi (fun x16 e17 => ?_)
              refine lv_aload_n hx hb dX12_tries_36 rfl (lv_at hl 0 rfl) ?_
              refine hw_get hx hb fg_7_11 hK vm rfl dX12_tries_37 ?_
              refine lv_bipush (v := 17) hx hb dX12_tries_40 (by decide) ?_
              refine lv_iload_n hx hb dX12_tries_42 rfl (lv_at hl 1 rfl) ?_
              refine lv_iadd hx hb dX12_tries_43 ?_
              refine lv_topi (fun x18 e19 => ?_)
              have t20 : x18.toInt = 17 + p1.toInt := by rw [e19]; exact hw_add rfl rfl (by omega) (by omega)
              obtain ⟨f21, v22⟩ := hH.a40 (hw_RM_0 Rm)
              refine hw_iald hx hb hK v22 (hw_in (by omega) (by omega)) dX12_tries_44 ?_
              refine lv_topi (fun x24 e25 => ?_)
              refine lv_aload_n hx hb dX12_tries_45 rfl (lv_at hl 0 rfl) ?_
              refine hw_get hx hb fg_26_11 hK vm rfl dX12_tries_46 ?_
              refine lv_iload_n hx hb dX12_tries_49 rfl (lv_at hl 3 rfl) ?_
              obtain ⟨f26, v27⟩ := hH.a48 (hw_RM_8 Rm)
              refine hw_iald hx hb hK v27 (hw_in (by omega) (by omega)) dX12_tries_50 ?_
              refine lv_topi (fun x29 e30 => ?_)
              refine hw_cR (va_runS (As := [.int x24, .int x29]) (rest := [.int x16]) ⟨hx, hb, hml, hown, hts⟩ (k_X12_apart l D G x24 x29 _) (va_cwS 2 hts gX12_tries_X12_apart rfl rfl rfl (by decide +kernel) ⟨Nat.le_of_ble_eq_true rfl, Nat.le_of_ble_eq_true rfl⟩) (hw_pS hH hK hST hS (by decide) (fun _ h => Or.inl h) trivial) rfl rfl hl.1 rfl (lv_room (Nat.le_of_ble_eq_true rfl)) dX12_tries_51 ⟨Nat.le_of_ble_eq_true rfl, Nat.le_of_ble_eq_true rfl⟩) (fun v hp => ?_)
              obtain ⟨x31, rfl⟩ := hp
              refine lv_iadd hx hb dX12_tries_54 ?_
              refine lv_topi (fun x32 e33 => ?_)
              refine lv_iconst (v := 2) hx hb dX12_tries_55 (by decide) ?_
              refine lv_iadd hx hb dX12_tries_56 ?_
              refine lv_topi (fun x34 e35 => ?_)
              refine lv_istore (lv' := [(4, .int x34), (0, .ref h0), (1, .int p1), (2, .int p2), (3, .int p3)]) hx hb dX12_tries_57 hl (by decide) rfl (fun ls hl => ?_)
              refine lv_aload_n hx hb dX12_tries_59 rfl (lv_at hl 1 rfl) ?_
              refine lv_iload_n hx hb dX12_tries_60 rfl (lv_at hl 3 rfl) ?_
              refine hw_cR (va_runV (As := [.int p2]) (rest := []) ⟨hx, hb, hml, hown, hts⟩ (k_X12_isBroken l D G h0 p2 _ G0 (by first | assumption | decide | omega)) (cwV 1 hts gX12_tries_X12_isBroken rfl rfl rfl (by decide +kernel) ⟨Nat.le_of_ble_eq_true rfl, Nat.le_of_ble_eq_true rfl⟩) (hw_pV (hw_rc (q := (RX12, TX12, 45)) hK vm rfl) hH hK hST hS (by decide) (fun _ h => Or.inl h) trivial) rfl rfl hl.1 rfl (lv_room (Nat.le_of_ble_eq_true rfl)) dX12_tries_61 ⟨Nat.le_of_ble_eq_true rfl, Nat.le_of_ble_eq_true rfl⟩) (fun v hp => ?_)
              rcases hp with rfl | rfl
              · refine lv_if_ne (tgt := 84) hx hb dX12_tries_64 (by decide) (fun c36 => ?_) (fun c36 => ?_)
                · refine lv_bipush (v := (-4)) hx hb dX12_tries_84 (by decide) ?_
                  exact hw_iretM (v := (-4)) hx hb hr hlocks hQ hS rfl (⟨(-4), ud_m, rfl, hH, vm, ⟨by first | decide | omega, by first | decide | omega⟩, (by first | rfl | trivial | assumption | omega | (intros; first | rfl | assumption | omega | (exfalso; omega)))⟩) dX12_tries_86
                · exact absurd c36 (by decide)
              · refine lv_if_ne (tgt := 84) hx hb dX12_tries_64 (by decide) (fun c37 => ?_) (fun c37 => ?_)
                · exact absurd c37 (by decide)
                · refine lv_aload_n hx hb dX12_tries_67 rfl (lv_at hl 1 rfl) ?_
                  refine lv_iload_n hx hb dX12_tries_68 rfl (lv_at hl 4 rfl) ?_
                  refine hw_cR (va_runV (As := [.int p3]) (rest := []) ⟨hx, hb, hml, hown, hts⟩ (k_X12_isOpen l D G h0 p3 _ G0) (cwV 1 hts gX12_tries_X12_isOpen rfl rfl rfl (by decide +kernel) ⟨Nat.le_of_ble_eq_true rfl, Nat.le_of_ble_eq_true rfl⟩) (hw_pV (hw_rc (q := (RX12, TX12, 45)) hK vm rfl) hH hK hST hS (by decide) (fun _ h => Or.inl h) trivial) rfl rfl hl.1 rfl (lv_room (Nat.le_of_ble_eq_true rfl)) dX12_tries_69 ⟨Nat.le_of_ble_eq_true rfl, Nat.le_of_ble_eq_true rfl⟩) (fun v hp => ?_)
                  rcases hp with rfl | rfl
                  · refine lv_if_ne (tgt := 84) hx hb dX12_tries_72 (by decide) (fun c38 => ?_) (fun c38 => ?_)
                    · refine lv_bipush (v := (-4)) hx hb dX12_tries_84 (by decide) ?_
                      exact hw_iretM (v := (-4)) hx hb hr hlocks hQ hS rfl (⟨(-4), ud_m, rfl, hH, vm, ⟨by first | decide | omega, by first | decide | omega⟩, (by first | rfl | trivial | assumption | omega | (intros; first | rfl | assumption | omega | (exfalso; omega)))⟩) dX12_tries_86
                    · exact absurd c38 (by decide)
                  · refine lv_if_ne (tgt := 84) hx hb dX12_tries_72 (by decide) (fun c39 => ?_) (fun c39 => ?_)
                    · exact absurd c39 (by decide)
                    · refine lv_iload hx hb dX12_tries_75 (lv_at hl 0 rfl) ?_
                      refine lv_aload_n hx hb dX12_tries_77 rfl (lv_at hl 1 rfl) ?_
                      refine hw_get hx hb fg_41_11 hK vm rfl dX12_tries_78 ?_
                      refine lv_icmp_le (tgt := 87) hx hb dX12_tries_81 (by decide) (fun c40 => ?_) (fun c40 => ?_)
                      · have b41 : x34.toInt ≤ dk_m.toInt := hw_ile c40
                        refine lv_aload_n hx hb dX12_tries_87 rfl (lv_at hl 1 rfl) ?_
                        obtain ⟨f42, v43⟩ := hH.a40 (hw_RM_0 Rm)
                        refine hw_cM0 (va_runV (As := []) (rest := []) ⟨hx, hb, hml, hown, hts⟩ (k_X12_keepPast l D G h0 _ rm ud_m ky_m lo_m wk_m dk_m ln_m sm_m fi_m be_m rk_m rl_m rw_m cl_m dg_m f42 G0 Rm ⟨by first | decide | omega, by first | decide | omega⟩ ⟨by first | decide | omega, by first | decide | omega⟩ ⟨by first | decide | omega, by first | decide | omega⟩ ⟨by first | decide | omega, by first | decide | omega⟩ ⟨by first | decide | omega, by first | decide | omega⟩ ⟨by first | decide | omega, by first | decide | omega⟩ ⟨by first | decide | omega, by first | decide | omega⟩ ⟨by first | decide | omega, by first | decide | omega⟩ ⟨by first | decide | omega, by first | decide | omega⟩ ⟨by first | decide | omega, by first | decide | omega⟩ ⟨by first | decide | omega, by first | decide | omega⟩ ⟨by first | decide | omega, by first | decide | omega⟩) (cwV 0 hts gX12_tries_X12_keepPast rfl rfl rfl (by decide +kernel) ⟨Nat.le_of_ble_eq_true rfl, Nat.le_of_ble_eq_true rfl⟩) (hw_pV (hw_rc (q := (RX12, TX12, 45)) hK vm rfl) hH hK hST hS (by decide) (fun _ h => Or.inl h) ⟨vm, v43⟩) rfl rfl hl.1 rfl (lv_room (Nat.le_of_ble_eq_true rfl)) dX12_tries_88 ⟨Nat.le_of_ble_eq_true rfl, Nat.le_of_ble_eq_true rfl⟩) hS (hw_AWsub (by decide) (fun _ _ => rfl) hS.1) (fun v H locs hp hz hk hS => ?_)
                        obtain ⟨x45, f46, rfl, hH, v47, v48, g49, q50⟩ := hp
                        refine lv_aload_n hx hb dX12_tries_91 rfl (lv_at hl 1 rfl) ?_
                        refine hw_get hx hb fg_7_11 hK v47 rfl dX12_tries_92 ?_
                        refine lv_bipush (v := 20) hx hb dX12_tries_95 (by decide) ?_
                        refine lv_iload_n hx hb dX12_tries_97 rfl (lv_at hl 2 rfl) ?_
                        refine lv_iadd hx hb dX12_tries_98 ?_
                        refine lv_topi (fun x51 e52 => ?_)
                        have t53 : x51.toInt = 20 + p1.toInt := by rw [e52]; exact hw_add rfl rfl (by omega) (by omega)
                        refine lv_iload hx hb dX12_tries_99 (lv_at hl 0 rfl) ?_
                        refine hw_iast hx hb hK hH v48 (hw_in (by omega) (by omega)) (fun _ => by rw [(hw_RM_0 Rm)]; exact ⟨_, rfl⟩) hS (hw_AWi (hw_RM_0 Rm) (by decide)) dX12_tries_101 (fun H locs hH v48 oq hz hS => ?_)
                        have v47 := va_at.kept v47 (oq _ (hw_ne G0 (hw_RM_0 Rm) (by decide)))
                        obtain ⟨f54, e55⟩ : ∃ z, z = upd f46 x51.toNatClampNeg x34 := ⟨_, rfl⟩
                        rw [← e55] at v48
                        refine lv_aload_n hx hb dX12_tries_102 rfl (lv_at hl 1 rfl) ?_
                        refine hw_get hx hb fg_7_11 hK v47 rfl dX12_tries_103 ?_
                        refine lv_bipush (v := 17) hx hb dX12_tries_106 (by decide) ?_
                        refine lv_iload_n hx hb dX12_tries_108 rfl (lv_at hl 2 rfl) ?_
                        refine lv_iadd hx hb dX12_tries_109 ?_
                        refine lv_topi (fun x56 e57 => ?_)
                        have t58 : x56.toInt = 17 + p1.toInt := by rw [e57]; exact hw_add rfl rfl (by omega) (by omega)
                        refine lv_aload_n hx hb dX12_tries_110 rfl (lv_at hl 1 rfl) ?_
                        refine hw_get hx hb fg_26_11 hK v47 rfl dX12_tries_111 ?_
                        refine lv_iload_n hx hb dX12_tries_114 rfl (lv_at hl 4 rfl) ?_
                        obtain ⟨f59, v60⟩ := hH.a48 (hw_RM_8 Rm)
                        refine hw_iald hx hb hK v60 (hw_in (by omega) (by omega)) dX12_tries_115 ?_
                        refine lv_topi (fun x62 e63 => ?_)
                        refine hw_iast hx hb hK hH v48 (hw_in (by omega) (by omega)) (fun _ => by rw [(hw_RM_0 Rm)]; exact ⟨_, rfl⟩) hS (hw_AWi (hw_RM_0 Rm) (by decide)) dX12_tries_116 (fun H locs hH v48 oq hz hS => ?_)
                        have v47 := va_at.kept v47 (oq _ (hw_ne G0 (hw_RM_0 Rm) (by decide)))
                        obtain ⟨f64, e65⟩ : ∃ z, z = upd f54 x56.toNatClampNeg x62 := ⟨_, rfl⟩
                        rw [← e65] at v48
                        refine lv_aload_n hx hb dX12_tries_117 rfl (lv_at hl 1 rfl) ?_
                        refine lv_iload_n hx hb dX12_tries_118 rfl (lv_at hl 3 rfl) ?_
                        refine lv_iload_n hx hb dX12_tries_119 rfl (lv_at hl 4 rfl) ?_
                        refine hw_cR (va_runV (As := [.int p2, .int p3]) (rest := []) ⟨hx, hb, hml, hown, hts⟩ (k_X12_doesGo l D G h0 p2 p3 _ G0 (by first | assumption | decide | omega) (by first | assumption | decide | omega)) (cwV 2 hts gX12_tries_X12_doesGo rfl rfl rfl (by decide +kernel) ⟨Nat.le_of_ble_eq_true rfl, Nat.le_of_ble_eq_true rfl⟩) (hw_pV (hw_rc (q := (RX12, TX12, 45)) hK v47 rfl) hH hK hST hS (by decide) (fun _ h => Or.inl h) trivial) rfl rfl hl.1 rfl (lv_room (Nat.le_of_ble_eq_true rfl)) dX12_tries_120 ⟨Nat.le_of_ble_eq_true rfl, Nat.le_of_ble_eq_true rfl⟩) (fun v hp => ?_)
                        rcases hp with rfl | rfl
                        · refine lv_if_eq (tgt := 168) hx hb dX12_tries_123 (by decide) (fun c66 => ?_) (fun c66 => ?_)
                          · exact absurd c66 (by decide)
                          · refine lv_aload_n hx hb dX12_tries_126 rfl (lv_at hl 1 rfl) ?_
                            refine hw_get hx hb fg_7_11 hK v47 rfl dX12_tries_127 ?_
                            refine lv_bipush (v := 10) hx hb dX12_tries_130 (by decide) ?_
                            refine lv_iload_n hx hb dX12_tries_132 rfl (lv_at hl 3 rfl) ?_
                            refine lv_iadd hx hb dX12_tries_133 ?_
                            refine lv_topi (fun x67 e68 => ?_)
                            have t69 : x67.toInt = 10 + p2.toInt := by rw [e68]; exact hw_add rfl rfl (by omega) (by omega)
                            refine lv_dup2_11 hx hb dX12_tries_134 rfl rfl ?_
                            refine hw_iald hx hb hK v48 (hw_in (by omega) (by omega)) dX12_tries_135 ?_
                            refine lv_topi (fun x70 e71 => ?_)
                            refine lv_iconst (v := 1) hx hb dX12_tries_136 (by decide) ?_
                            refine lv_iadd hx hb dX12_tries_137 ?_
                            refine lv_topi (fun x72 e73 => ?_)
                            refine hw_iast hx hb hK hH v48 (hw_in (by omega) (by omega)) (fun _ => by rw [(hw_RM_0 Rm)]; exact ⟨_, rfl⟩) hS (hw_AWi (hw_RM_0 Rm) (by decide)) dX12_tries_138 (fun H locs hH v48 oq hz hS => ?_)
                            have v47 := va_at.kept v47 (oq _ (hw_ne G0 (hw_RM_0 Rm) (by decide)))
                            obtain ⟨f74, e75⟩ : ∃ z, z = upd f64 x67.toNatClampNeg x72 := ⟨_, rfl⟩
                            rw [← e75] at v48
                            refine lv_aload_n hx hb dX12_tries_139 rfl (lv_at hl 1 rfl) ?_
                            refine hw_get hx hb fg_7_11 hK v47 rfl dX12_tries_140 ?_
                            refine lv_iconst (v := 2) hx hb dX12_tries_143 (by decide) ?_
                            refine lv_dup2_11 hx hb dX12_tries_144 rfl rfl ?_
                            refine hw_iald hx hb hK v48 (hw_in (x := 2) (by decide) (by decide)) dX12_tries_145 ?_
                            refine lv_topi (fun x76 e77 => ?_)
                            refine lv_iconst (v := 1) hx hb dX12_tries_146 (by decide) ?_
                            refine lv_iload_n hx hb dX12_tries_147 rfl (lv_at hl 4 rfl) ?_
                            refine lv_ishl hx hb dX12_tries_148 ?_
                            refine lv_topi (fun x78 e79 => ?_)
                            have t80 : 1 ≤ x78.toInt ∧ x78.toInt ≤ 64 := by rw [e79]; exact hw_sh1b 6 (by decide) (by first | decide | omega) (by first | decide | omega)
                            refine lv_ior hx hb dX12_tries_149 ?_
                            refine lv_topi (fun x81 e82 => ?_)
                            refine hw_iast hx hb hK hH v48 (hw_in (x := 2) (by decide) (by decide)) (fun _ => by rw [(hw_RM_0 Rm)]; exact ⟨_, rfl⟩) hS (hw_AWi (hw_RM_0 Rm) (by decide)) dX12_tries_150 (fun H locs hH v48 oq hz hS => ?_)
                            have v47 := va_at.kept v47 (oq _ (hw_ne G0 (hw_RM_0 Rm) (by decide)))
                            obtain ⟨f83, e84⟩ : ∃ z, z = upd f74 (2 : Int32).toNatClampNeg x81 := ⟨_, rfl⟩
                            rw [← e84] at v48
                            refine lv_aload_n hx hb dX12_tries_151 rfl (lv_at hl 1 rfl) ?_
                            refine hw_get hx hb fg_7_11 hK v47 rfl dX12_tries_152 ?_
                            refine lv_iconst (v := 1) hx hb dX12_tries_155 (by decide) ?_
                            refine lv_dup2_11 hx hb dX12_tries_156 rfl rfl ?_
                            refine hw_iald hx hb hK v48 (hw_in (x := 1) (by decide) (by decide)) dX12_tries_157 ?_
                            refine lv_topi (fun x85 e86 => ?_)
                            refine lv_aload_n hx hb dX12_tries_158 rfl (lv_at hl 1 rfl) ?_
                            refine hw_get hx hb fg_35_11 hK v47 rfl dX12_tries_159 ?_
                            refine lv_iload_n hx hb dX12_tries_162 rfl (lv_at hl 4 rfl) ?_
                            obtain ⟨f87, v88⟩ := hH.a51 (hw_RM_11 Rm)
                            refine hw_iald hx hb hK v88 (hw_in (by omega) (by omega)) dX12_tries_163 ?_
                            refine lv_topi (fun x90 e91 => ?_)
                            refine lv_iadd hx hb dX12_tries_164 ?_
                            refine lv_topi (fun x92 e93 => ?_)
                            refine hw_iast hx hb hK hH v48 (hw_in (x := 1) (by decide) (by decide)) (fun _ => by rw [(hw_RM_0 Rm)]; exact ⟨_, rfl⟩) hS (hw_AWi (hw_RM_0 Rm) (by decide)) dX12_tries_165 (fun H locs hH v48 oq hz hS => ?_)
                            have v47 := va_at.kept v47 (oq _ (hw_ne G0 (hw_RM_0 Rm) (by decide)))
                            obtain ⟨f94, e95⟩ : ∃ z, z = upd f83 (1 : Int32).toNatClampNeg x92 := ⟨_, rfl⟩
                            rw [← e95] at v48
                            refine lv_iconst (v := 2) hx hb dX12_tries_166 (by decide) ?_
                            exact hw_iretM (v := 2) hx hb hr hlocks hQ hS rfl (⟨2, x45, rfl, hH, v47, ⟨by first | decide | omega, by first | decide | omega⟩, (by first | rfl | trivial | assumption | omega | (intros; first | rfl | assumption | omega | (exfalso; omega)))⟩) dX12_tries_167
                        · refine lv_if_eq (tgt := 168) hx hb dX12_tries_123 (by decide) (fun c96 => ?_) (fun c96 => ?_)
                          · refine lv_aload_n hx hb dX12_tries_168 rfl (lv_at hl 1 rfl) ?_
                            refine hw_get hx hb fg_17_11 hK v47 rfl dX12_tries_169 ?_
                            refine lv_iload_n hx hb dX12_tries_172 rfl (lv_at hl 3 rfl) ?_
                            obtain ⟨f97, v98⟩ := hH.a44 (hw_RM_4 Rm)
                            refine hw_iald hx hb hK v98 (hw_in (by omega) (by omega)) dX12_tries_173 ?_
                            refine lv_topi (fun x100 e101 => ?_)
                            refine lv_iconst (v := 2) hx hb dX12_tries_174 (by decide) ?_
                            refine lv_icmp_eq (tgt := 236) hx hb dX12_tries_175 (by decide) (fun c102 => ?_) (fun c102 => ?_)
                            · have b103 : x100.toInt = 2 := hw_ieq c102
                              refine lv_iconst (v := 0) hx hb dX12_tries_236 (by decide) ?_
                              exact hw_iretM (v := 0) hx hb hr hlocks hQ hS rfl (⟨0, x45, rfl, hH, v47, ⟨by first | decide | omega, by first | decide | omega⟩, (by first | rfl | trivial | assumption | omega | (intros; first | rfl | assumption | omega | (exfalso; omega)))⟩) dX12_tries_237
                            · have b104 : x100.toInt ≠ 2 := hw_ine c102
                              refine lv_aload_n hx hb dX12_tries_178 rfl (lv_at hl 1 rfl) ?_
                              refine hw_get hx hb fg_29_11 hK v47 rfl dX12_tries_179 ?_
                              refine lv_iload_n hx hb dX12_tries_182 rfl (lv_at hl 4 rfl) ?_
                              obtain ⟨f105, v106⟩ := hH.a49 (hw_RM_9 Rm)
                              refine hw_iald hx hb hK v106 (hw_in (by omega) (by omega)) dX12_tries_183 ?_
                              refine lv_topi (fun x108 e109 => ?_)
                              refine lv_aload_n hx hb dX12_tries_184 rfl (lv_at hl 1 rfl) ?_
                              refine lv_iload_n hx hb dX12_tries_185 rfl (lv_at hl 3 rfl) ?_
                              refine hw_cR (va_runV (As := [.int p2]) (rest := [.int x108]) ⟨hx, hb, hml, hown, hts⟩ (k_X12_edge l D G h0 p2 _ G0 (by first | assumption | decide | omega)) (cwV 1 hts gX12_tries_X12_edge rfl rfl rfl (by decide +kernel) ⟨Nat.le_of_ble_eq_true rfl, Nat.le_of_ble_eq_true rfl⟩) (hw_pV (hw_rc (q := (RX12, TX12, 45)) hK v47 rfl) hH hK hST hS (by decide) (fun _ h => Or.inl h) trivial) rfl rfl hl.1 rfl (lv_room (Nat.le_of_ble_eq_true rfl)) dX12_tries_186 ⟨Nat.le_of_ble_eq_true rfl, Nat.le_of_ble_eq_true rfl⟩) (fun v hp => ?_)
                              obtain ⟨x110, rfl⟩ := hp
                              refine lv_iconst (v := (-1)) hx hb dX12_tries_189 (by decide) ?_
                              refine lv_ixor hx hb dX12_tries_190 ?_
                              refine lv_topi (fun x111 e112 => ?_)
                              refine lv_iand hx hb dX12_tries_191 ?_
                              refine lv_topi (fun x113 e114 => ?_)
                              refine hw_cR (va_runS (As := [.int x113]) (rest := []) ⟨hx, hb, hml, hown, hts⟩ (k_X12_bits l D G x113 _) (va_cwS 1 hts gX12_tries_X12_bits rfl rfl rfl (by decide +kernel) ⟨Nat.le_of_ble_eq_true rfl, Nat.le_of_ble_eq_true rfl⟩) (hw_pS hH hK hST hS (by decide) (fun _ h => Or.inl h) trivial) rfl rfl hl.1 rfl (lv_room (Nat.le_of_ble_eq_true rfl)) dX12_tries_192 ⟨Nat.le_of_ble_eq_true rfl, Nat.le_of_ble_eq_true rfl⟩) (fun v hp => ?_)
                              obtain ⟨x115, rfl, g116, q117⟩ := hp
                              refine lv_iconst (v := 1) hx hb dX12_tries_195 (by decide) ?_
                              refine lv_icmp_ne (tgt := 236) hx hb dX12_tries_196 (by decide) (fun c118 => ?_) (fun c118 => ?_)
                              · have b119 : x115.toInt ≠ 1 := hw_ine c118
                                refine lv_iconst (v := 0) hx hb dX12_tries_236 (by decide) ?_
                                exact hw_iretM (v := 0) hx hb hr hlocks hQ hS rfl (⟨0, x45, rfl, hH, v47, ⟨by first | decide | omega, by first | decide | omega⟩, (by first | rfl | trivial | assumption | omega | (intros; first | rfl | assumption | omega | (exfalso; omega)))⟩) dX12_tries_237
                              · have b120 : x115.toInt = 1 := hw_ieq c118
                                refine lv_aload_n hx hb dX12_tries_199 rfl (lv_at hl 1 rfl) ?_
                                refine hw_get hx hb fg_7_11 hK v47 rfl dX12_tries_200 ?_
                                refine lv_iconst (v := 3) hx hb dX12_tries_203 (by decide) ?_
                                refine lv_iload_n hx hb dX12_tries_204 rfl (lv_at hl 3 rfl) ?_
                                refine lv_iadd hx hb dX12_tries_205 ?_
                                refine lv_topi (fun x121 e122 => ?_)
                                have t123 : x121.toInt = 3 + p2.toInt := by rw [e122]; exact hw_add rfl rfl (by omega) (by omega)
                                refine lv_aload_n hx hb dX12_tries_206 rfl (lv_at hl 1 rfl) ?_
                                refine hw_get hx hb fg_7_11 hK v47 rfl dX12_tries_207 ?_
                                refine lv_iconst (v := 3) hx hb dX12_tries_210 (by decide) ?_
                                refine lv_iload_n hx hb dX12_tries_211 rfl (lv_at hl 3 rfl) ?_
                                refine lv_iadd hx hb dX12_tries_212 ?_
                                refine lv_topi (fun x124 e125 => ?_)
                                have t126 : x124.toInt = 3 + p2.toInt := by rw [e125]; exact hw_add rfl rfl (by omega) (by omega)
                                refine hw_iald hx hb hK v48 (hw_in (by omega) (by omega)) dX12_tries_213 ?_
                                refine lv_topi (fun x127 e128 => ?_)
                                refine lv_bipush (v := 8) hx hb dX12_tries_214 (by decide) ?_
                                refine lv_icmp_ne (tgt := 223) hx hb dX12_tries_216 (by decide) (fun c129 => ?_) (fun c129 => ?_)
                                · have b130 : x127.toInt ≠ 8 := hw_ine c129
                                  refine lv_aload_n hx hb dX12_tries_223 rfl (lv_at hl 1 rfl) ?_
                                  refine hw_get hx hb fg_7_11 hK v47 rfl dX12_tries_224 ?_
                                  refine lv_iconst (v := 3) hx hb dX12_tries_227 (by decide) ?_
                                  refine lv_iload_n hx hb dX12_tries_228 rfl (lv_at hl 3 rfl) ?_
                                  refine lv_iadd hx hb dX12_tries_229 ?_
                                  refine lv_topi (fun x131 e132 => ?_)
                                  have t133 : x131.toInt = 3 + p2.toInt := by rw [e132]; exact hw_add rfl rfl (by omega) (by omega)
                                  refine hw_iald hx hb hK v48 (hw_in (by omega) (by omega)) dX12_tries_230 ?_
                                  refine lv_topi (fun x134 e135 => ?_)
                                  refine lv_iconst (v := 1) hx hb dX12_tries_231 (by decide) ?_
                                  refine lv_iadd hx hb dX12_tries_232 ?_
                                  refine lv_topi (fun x136 e137 => ?_)
                                  refine hw_iast hx hb hK hH v48 (hw_in (by omega) (by omega)) (fun _ => by rw [(hw_RM_0 Rm)]; exact ⟨_, rfl⟩) hS (hw_AWi (hw_RM_0 Rm) (by decide)) dX12_tries_233 (fun H locs hH v48 oq hz hS => ?_)
                                  have v47 := va_at.kept v47 (oq _ (hw_ne G0 (hw_RM_0 Rm) (by decide)))
                                  obtain ⟨f138, e139⟩ : ∃ z, z = upd f64 x121.toNatClampNeg x136 := ⟨_, rfl⟩
                                  rw [← e139] at v48
                                  refine lv_iconst (v := 1) hx hb dX12_tries_234 (by decide) ?_
                                  exact hw_iretM (v := 1) hx hb hr hlocks hQ hS rfl (⟨1, x45, rfl, hH, v47, ⟨by first | decide | omega, by first | decide | omega⟩, (by first | rfl | trivial | assumption | omega | (intros; first | rfl | assumption | omega | (exfalso; omega)))⟩) dX12_tries_235
                                · have b140 : x127.toInt = 8 := hw_ieq c129
                                  refine lv_iconst (v := 0) hx hb dX12_tries_219 (by decide) ?_
                                  refine lv_goto (tgt := 233) hx hb dX12_tries_220 (by decide) ?_
                                  refine hw_iast hx hb hK hH v48 (hw_in (by omega) (by omega)) (fun _ => by rw [(hw_RM_0 Rm)]; exact ⟨_, rfl⟩) hS (hw_AWi (hw_RM_0 Rm) (by decide)) dX12_tries_233 (fun H locs hH v48 oq hz hS => ?_)
                                  have v47 := va_at.kept v47 (oq _ (hw_ne G0 (hw_RM_0 Rm) (by decide)))
                                  obtain ⟨f141, e142⟩ : ∃ z, z = upd f64 x121.toNatClampNeg 0 := ⟨_, rfl⟩
                                  rw [← e142] at v48
                                  refine lv_iconst (v := 1) hx hb dX12_tries_234 (by decide) ?_
                                  exact hw_iretM (v := 1) hx hb hr hlocks hQ hS rfl (⟨1, x45, rfl, hH, v47, ⟨by first | decide | omega, by first | decide | omega⟩, (by first | rfl | trivial | assumption | omega | (intros; first | rfl | assumption | omega | (exfalso; omega)))⟩) dX12_tries_235
                          · exact absurd c96 (by decide)
                      · have b143 : dk_m.toInt < x34.toInt := hw_inle c40
                        refine lv_bipush (v := (-4)) hx hb dX12_tries_84 (by decide) ?_
                        exact hw_iretM (v := (-4)) hx hb hr hlocks hQ hS rfl (⟨(-4), ud_m, rfl, hH, vm, ⟨by first | decide | omega, by first | decide | omega⟩, (by first | rfl | trivial | assumption | omega | (intros; first | rfl | assumption | omega | (exfalso; omega)))⟩) dX12_tries_86
            · exact absurd c9 (by decide)
          · refine lv_if_ne (tgt := 27) hx hb dX12_tries_21 (by decide) (fun c144 => ?_) (fun c144 => ?_)
            · exact absurd c144 (by decide)
            · refine lv_bipush (v := (-2)) hx hb dX12_tries_24 (by decide) ?_
              exact hw_iretM (v := (-2)) hx hb hr hlocks hQ hS rfl (⟨(-2), ud_m, rfl, hH, vm, ⟨by first | decide | omega, by first | decide | omega⟩, (by first | rfl | trivial | assumption | omega | (intros; first | rfl | assumption | omega | (exfalso; omega)))⟩) dX12_tries_26
      · refine lv_if_eq (tgt := 24) hx hb dX12_tries_13 (by decide) (fun c145 => ?_) (fun c145 => ?_)
        · refine lv_bipush (v := (-2)) hx hb dX12_tries_24 (by decide) ?_
          exact hw_iretM (v := (-2)) hx hb hr hlocks hQ hS rfl (⟨(-2), ud_m, rfl, hH, vm, ⟨by first | decide | omega, by first | decide | omega⟩, (by first | rfl | trivial | assumption | omega | (intros; first | rfl | assumption | omega | (exfalso; omega)))⟩) dX12_tries_26
        · exact absurd c145 (by decide)
  · refine lv_if_eq (tgt := 24) hx hb dX12_tries_5 (by decide) (fun c146 => ?_) (fun c146 => ?_)
    · refine lv_bipush (v := (-2)) hx hb dX12_tries_24 (by decide) ?_
      exact hw_iretM (v := (-2)) hx hb hr hlocks hQ hS rfl (⟨(-2), ud_m, rfl, hH, vm, ⟨by first | decide | omega, by first | decide | omega⟩, (by first | rfl | trivial | assumption | omega | (intros; first | rfl | assumption | omega | (exfalso; omega)))⟩) dX12_tries_26
    · exact absurd c146 (by decide)

set_option maxHeartbeats 4000000 in
set_option maxRecDepth 100000 in
theorem k_X12_shut (l : Launch) (D : hw_D) (G : Nat → Nat) (h0 : Nat) (p1 : Int32) (sz : Nat) (rm : Nat → Nat) (ud_m ky_m lo_m wk_m dk_m ln_m sm_m fi_m be_m rk_m rl_m rw_m cl_m dg_m : Int32) (G0 : G h0 = 9) (Rm : hw_RM G rm) (gud_m : 0 ≤ ud_m.toInt ∧ ud_m.toInt ≤ 8) (gky_m : 0 ≤ ky_m.toInt ∧ ky_m.toInt ≤ 7) (glo_m : 0 ≤ lo_m.toInt ∧ lo_m.toInt ≤ 7) (gwk_m : 0 ≤ wk_m.toInt ∧ wk_m.toInt ≤ 3) (gln_m : 0 ≤ ln_m.toInt ∧ ln_m.toInt ≤ 200) (gsm_m : 0 ≤ sm_m.toInt ∧ sm_m.toInt ≤ 6) (gfi_m : 0 ≤ fi_m.toInt ∧ fi_m.toInt ≤ 200) (gbe_m : 0 ≤ be_m.toInt ∧ be_m.toInt ≤ 200) (grk_m : 0 ≤ rk_m.toInt ∧ rk_m.toInt ≤ 7) (grl_m : 0 ≤ rl_m.toInt ∧ rl_m.toInt ≤ 7) (grw_m : 0 ≤ rw_m.toInt ∧ rw_m.toInt ≤ 3) (gdg_m : 0 ≤ dg_m.toInt ∧ dg_m.toInt ≤ 1) : Met l yX12_shut wsX12_shut ({ frames := 2, cells := 0, slots := 0, locals := 46 } : Room) (hw_PC D G [.ref h0, .int p1] sz (fun H => va_at D.1 vwCl (h0, .inr (11, hw_LM rm ud_m ky_m lo_m wk_m dk_m ln_m sm_m fi_m be_m rk_m rl_m rw_m cl_m dg_m)) H)) (hw_QM (fun v H => ∃ (r : Int32) (ud_m2 : Int32), v = some (.int r) ∧ hw_HT D G H ∧ va_at D.1 vwCl (h0, .inr (11, hw_LM rm ud_m2 ky_m lo_m wk_m dk_m ln_m sm_m fi_m be_m rk_m rl_m rw_m cl_m dg_m)) H ∧ (0 ≤ ud_m2.toInt ∧ ud_m2.toInt ≤ 8) ∧ (lo_m.toInt = 0 → r.toInt = -2)) (hw_AW G [9, 40] sz)) 0 0 (hw_AW G [9, 40] sz) := by
  refine hw_met (cc := cX12_shut) (maxL := 2) (ret := (some .int)) (plainFor_of_name (by decide)) rfl (Nat.le_of_ble_eq_true rfl) ?_
  intro p e s m args below meth c QQ ls hsz hx hb hml hr hts hown hlocks hnm hH hK hST hF hQ hl
  subst hsz
  have hS : va_S (hw_AW G [9, 40] s.heap.size) s.heap s.heap [] := va_S.rf
  have vm := hF
  have hl : lv_has ls 2 [(0, .ref h0), (1, .int p1)] := hl
  have u_11 : ∀ w ∈ u_ws RX12 TX12 45, w.before args s = true := fun w hw => hts w ((by decide +kernel : ∀ w ∈ u_ws RX12 TX12 45, w ∈ wsX12_shut) w hw)
  have fg_7_11 : hw_FG s args m 7 11 0 := ⟨RX12, "WardWalkersModel", RX12, TX12, 45, u_11, hown, rfl, by decide, (hts (.fieldLink RX12 7 "WardWalkersModel" "row" "[I") (by decide +kernel)), (fun _ h9 => h9)⟩
  have fg_35_11 : hw_FG s args m 35 11 11 := ⟨RX12, "WardWalkersModel", RX12, TX12, 45, u_11, hown, rfl, by decide, (hts (.fieldLink RX12 35 "WardWalkersModel" "values" "[I") (by decide +kernel)), (fun _ h9 => h9)⟩
  refine lv_aload_n hx hb dX12_shut_0 rfl (lv_at hl 0 rfl) ?_
  refine lv_iload_n hx hb dX12_shut_1 rfl (lv_at hl 1 rfl) ?_
  refine hw_cR (va_runV (As := [.int p1]) (rest := []) ⟨hx, hb, hml, hown, hts⟩ (k_X12_isLock l D G h0 p1 _ rm ud_m ky_m lo_m wk_m dk_m ln_m sm_m fi_m be_m rk_m rl_m rw_m cl_m dg_m G0 Rm ⟨by first | decide | omega, by first | decide | omega⟩ ⟨by first | decide | omega, by first | decide | omega⟩ ⟨by first | decide | omega, by first | decide | omega⟩ ⟨by first | decide | omega, by first | decide | omega⟩ ⟨by first | decide | omega, by first | decide | omega⟩ ⟨by first | decide | omega, by first | decide | omega⟩ ⟨by first | decide | omega, by first | decide | omega⟩ ⟨by first | decide | omega, by first | decide | omega⟩ ⟨by first | decide | omega, by first | decide | omega⟩ ⟨by first | decide | omega, by first | decide | omega⟩ ⟨by first | decide | omega, by first | decide | omega⟩ ⟨by first | decide | omega, by first | decide | omega⟩) (cwV 1 hts gX12_shut_X12_isLock rfl rfl rfl (by decide +kernel) ⟨Nat.le_of_ble_eq_true rfl, Nat.le_of_ble_eq_true rfl⟩) (hw_pV (hw_rc (q := (RX12, TX12, 45)) hK vm rfl) hH hK hST hS (by decide) (fun _ h => Or.inl h) vm) rfl rfl hl.1 rfl (lv_room (Nat.le_of_ble_eq_true rfl)) dX12_shut_2 ⟨Nat.le_of_ble_eq_true rfl, Nat.le_of_ble_eq_true rfl⟩) (fun v hp => ?_)
  rcases hp with ⟨rfl, q1⟩ | ⟨rfl, q2⟩
  · refine lv_if_ne (tgt := 11) hx hb dX12_shut_5 (by decide) (fun c3 => ?_) (fun c3 => ?_)
    · refine lv_aload_n hx hb dX12_shut_11 rfl (lv_at hl 0 rfl) ?_
      refine lv_iload_n hx hb dX12_shut_12 rfl (lv_at hl 1 rfl) ?_
      refine hw_cR (va_runV (As := [.int p1]) (rest := []) ⟨hx, hb, hml, hown, hts⟩ (k_X12_isOpen l D G h0 p1 _ G0) (cwV 1 hts gX12_shut_X12_isOpen rfl rfl rfl (by decide +kernel) ⟨Nat.le_of_ble_eq_true rfl, Nat.le_of_ble_eq_true rfl⟩) (hw_pV (hw_rc (q := (RX12, TX12, 45)) hK vm rfl) hH hK hST hS (by decide) (fun _ h => Or.inl h) trivial) rfl rfl hl.1 rfl (lv_room (Nat.le_of_ble_eq_true rfl)) dX12_shut_13 ⟨Nat.le_of_ble_eq_true rfl, Nat.le_of_ble_eq_true rfl⟩) (fun v hp => ?_)
      rcases hp with rfl | rfl
      · refine lv_if_ne (tgt := 22) hx hb dX12_shut_16 (by decide) (fun c4 => ?_) (fun c4 => ?_)
        · refine lv_aload_n hx hb dX12_shut_22 rfl (lv_at hl 0 rfl) ?_
          obtain ⟨f5, v6⟩ := hH.a40 (hw_RM_0 Rm)
          refine hw_cM0 (va_runV (As := []) (rest := []) ⟨hx, hb, hml, hown, hts⟩ (k_X12_keepPast l D G h0 _ rm ud_m ky_m lo_m wk_m dk_m ln_m sm_m fi_m be_m rk_m rl_m rw_m cl_m dg_m f5 G0 Rm ⟨by first | decide | omega, by first | decide | omega⟩ ⟨by first | decide | omega, by first | decide | omega⟩ ⟨by first | decide | omega, by first | decide | omega⟩ ⟨by first | decide | omega, by first | decide | omega⟩ ⟨by first | decide | omega, by first | decide | omega⟩ ⟨by first | decide | omega, by first | decide | omega⟩ ⟨by first | decide | omega, by first | decide | omega⟩ ⟨by first | decide | omega, by first | decide | omega⟩ ⟨by first | decide | omega, by first | decide | omega⟩ ⟨by first | decide | omega, by first | decide | omega⟩ ⟨by first | decide | omega, by first | decide | omega⟩ ⟨by first | decide | omega, by first | decide | omega⟩) (cwV 0 hts gX12_shut_X12_keepPast rfl rfl rfl (by decide +kernel) ⟨Nat.le_of_ble_eq_true rfl, Nat.le_of_ble_eq_true rfl⟩) (hw_pV (hw_rc (q := (RX12, TX12, 45)) hK vm rfl) hH hK hST hS (by decide) (fun _ h => Or.inl h) ⟨vm, v6⟩) rfl rfl hl.1 rfl (lv_room (Nat.le_of_ble_eq_true rfl)) dX12_shut_23 ⟨Nat.le_of_ble_eq_true rfl, Nat.le_of_ble_eq_true rfl⟩) hS (hw_AWsub (by decide) (fun _ _ => rfl) hS.1) (fun v H locs hp hz hk hS => ?_)
          obtain ⟨x8, f9, rfl, hH, v10, v11, g12, q13⟩ := hp
          refine lv_aload_n hx hb dX12_shut_26 rfl (lv_at hl 0 rfl) ?_
          refine hw_get hx hb fg_7_11 hK v10 rfl dX12_shut_27 ?_
          refine lv_iconst (v := 2) hx hb dX12_shut_30 (by decide) ?_
          refine lv_dup2_11 hx hb dX12_shut_31 rfl rfl ?_
          refine hw_iald hx hb hK v11 (hw_in (x := 2) (by decide) (by decide)) dX12_shut_32 ?_
          refine lv_topi (fun x14 e15 => ?_)
          refine lv_iconst (v := 1) hx hb dX12_shut_33 (by decide) ?_
          refine lv_iload_n hx hb dX12_shut_34 rfl (lv_at hl 1 rfl) ?_
          refine lv_ishl hx hb dX12_shut_35 ?_
          refine lv_topi (fun x16 e17 => ?_)
          have t18 : 1 ≤ x16.toInt ∧ x16.toInt ≤ 64 := by rw [e17]; exact hw_sh1b 6 (by decide) (by first | decide | omega) (by first | decide | omega)
          refine lv_iconst (v := (-1)) hx hb dX12_shut_36 (by decide) ?_
          refine lv_ixor hx hb dX12_shut_37 ?_
          refine lv_topi (fun x19 e20 => ?_)
          refine lv_iand hx hb dX12_shut_38 ?_
          refine lv_topi (fun x21 e22 => ?_)
          refine hw_iast hx hb hK hH v11 (hw_in (x := 2) (by decide) (by decide)) (fun _ => by rw [(hw_RM_0 Rm)]; exact ⟨_, rfl⟩) hS (hw_AWi (hw_RM_0 Rm) (by decide)) dX12_shut_39 (fun H locs hH v11 oq hz hS => ?_)
          have v10 := va_at.kept v10 (oq _ (hw_ne G0 (hw_RM_0 Rm) (by decide)))
          obtain ⟨f23, e24⟩ : ∃ z, z = upd f9 (2 : Int32).toNatClampNeg x21 := ⟨_, rfl⟩
          rw [← e24] at v11
          refine lv_aload_n hx hb dX12_shut_40 rfl (lv_at hl 0 rfl) ?_
          refine hw_get hx hb fg_35_11 hK v10 rfl dX12_shut_41 ?_
          refine lv_iload_n hx hb dX12_shut_44 rfl (lv_at hl 1 rfl) ?_
          obtain ⟨f25, v26⟩ := hH.a51 (hw_RM_11 Rm)
          refine hw_iald hx hb hK v26 (hw_in (by omega) (by omega)) dX12_shut_45 ?_
          refine lv_topi (fun x28 e29 => ?_)
          exact hw_iretM (v := x28) hx hb hr hlocks hQ hS rfl (⟨x28, x8, rfl, hH, v10, ⟨by first | decide | omega, by first | decide | omega⟩, (by first | rfl | trivial | assumption | omega | (intros; first | rfl | assumption | omega | (exfalso; omega)))⟩) dX12_shut_46
        · exact absurd c4 (by decide)
      · refine lv_if_ne (tgt := 22) hx hb dX12_shut_16 (by decide) (fun c30 => ?_) (fun c30 => ?_)
        · exact absurd c30 (by decide)
        · refine lv_bipush (v := (-4)) hx hb dX12_shut_19 (by decide) ?_
          exact hw_iretM (v := (-4)) hx hb hr hlocks hQ hS rfl (⟨(-4), ud_m, rfl, hH, vm, ⟨by first | decide | omega, by first | decide | omega⟩, (by first | rfl | trivial | assumption | omega | (intros; first | rfl | assumption | omega | (exfalso; omega)))⟩) dX12_shut_21
    · exact absurd c3 (by decide)
  · refine lv_if_ne (tgt := 11) hx hb dX12_shut_5 (by decide) (fun c31 => ?_) (fun c31 => ?_)
    · exact absurd c31 (by decide)
    · refine lv_bipush (v := (-2)) hx hb dX12_shut_8 (by decide) ?_
      exact hw_iretM (v := (-2)) hx hb hr hlocks hQ hS rfl (⟨(-2), ud_m, rfl, hH, vm, ⟨by first | decide | omega, by first | decide | omega⟩, (by first | rfl | trivial | assumption | omega | (intros; first | rfl | assumption | omega | (exfalso; omega)))⟩) dX12_shut_10

set_option maxHeartbeats 4000000 in
set_option maxRecDepth 100000 in
theorem k_X12_mend (l : Launch) (D : hw_D) (G : Nat → Nat) (h0 : Nat) (p1 : Int32) (sz : Nat) (rm : Nat → Nat) (ud_m ky_m lo_m wk_m dk_m ln_m sm_m fi_m be_m rk_m rl_m rw_m cl_m dg_m : Int32) (G0 : G h0 = 9) (Rm : hw_RM G rm) (gud_m : 0 ≤ ud_m.toInt ∧ ud_m.toInt ≤ 8) (gky_m : 0 ≤ ky_m.toInt ∧ ky_m.toInt ≤ 7) (glo_m : 0 ≤ lo_m.toInt ∧ lo_m.toInt ≤ 7) (gwk_m : 0 ≤ wk_m.toInt ∧ wk_m.toInt ≤ 3) (gln_m : 0 ≤ ln_m.toInt ∧ ln_m.toInt ≤ 200) (gsm_m : 0 ≤ sm_m.toInt ∧ sm_m.toInt ≤ 6) (gfi_m : 0 ≤ fi_m.toInt ∧ fi_m.toInt ≤ 200) (gbe_m : 0 ≤ be_m.toInt ∧ be_m.toInt ≤ 200) (grk_m : 0 ≤ rk_m.toInt ∧ rk_m.toInt ≤ 7) (grl_m : 0 ≤ rl_m.toInt ∧ rl_m.toInt ≤ 7) (grw_m : 0 ≤ rw_m.toInt ∧ rw_m.toInt ≤ 3) (gdg_m : 0 ≤ dg_m.toInt ∧ dg_m.toInt ≤ 1) : Met l yX12_mend wsX12_mend ({ frames := 2, cells := 0, slots := 0, locals := 46 } : Room) (hw_PC D G [.ref h0, .int p1] sz (fun H => va_at D.1 vwCl (h0, .inr (11, hw_LM rm ud_m ky_m lo_m wk_m dk_m ln_m sm_m fi_m be_m rk_m rl_m rw_m cl_m dg_m)) H)) (hw_QM (fun v H => ∃ (r : Int32) (ud_m2 : Int32), v = some (.int r) ∧ hw_HT D G H ∧ va_at D.1 vwCl (h0, .inr (11, hw_LM rm ud_m2 ky_m lo_m wk_m dk_m ln_m sm_m fi_m be_m rk_m rl_m rw_m cl_m dg_m)) H ∧ (0 ≤ ud_m2.toInt ∧ ud_m2.toInt ≤ 8) ∧ (ky_m.toInt = 0 → r.toInt = -2)) (hw_AW G [9, 40] sz)) 0 0 (hw_AW G [9, 40] sz) := by
  refine hw_met (cc := cX12_mend) (maxL := 3) (ret := (some .int)) (plainFor_of_name (by decide)) rfl (Nat.le_of_ble_eq_true rfl) ?_
  intro p e s m args below meth c QQ ls hsz hx hb hml hr hts hown hlocks hnm hH hK hST hF hQ hl
  subst hsz
  have hS : va_S (hw_AW G [9, 40] s.heap.size) s.heap s.heap [] := va_S.rf
  have vm := hF
  have hl : lv_has ls 3 [(0, .ref h0), (1, .int p1)] := hl
  have u_11 : ∀ w ∈ u_ws RX12 TX12 45, w.before args s = true := fun w hw => hts w ((by decide +kernel : ∀ w ∈ u_ws RX12 TX12 45, w ∈ wsX12_mend) w hw)
  have fg_7_11 : hw_FG s args m 7 11 0 := ⟨RX12, "WardWalkersModel", RX12, TX12, 45, u_11, hown, rfl, by decide, (hts (.fieldLink RX12 7 "WardWalkersModel" "row" "[I") (by decide +kernel)), (fun _ h9 => h9)⟩
  refine lv_aload_n hx hb dX12_mend_0 rfl (lv_at hl 0 rfl) ?_
  refine lv_iload_n hx hb dX12_mend_1 rfl (lv_at hl 1 rfl) ?_
  refine hw_cR (va_runV (As := [.int p1]) (rest := []) ⟨hx, hb, hml, hown, hts⟩ (k_X12_isKey l D G h0 p1 _ rm ud_m ky_m lo_m wk_m dk_m ln_m sm_m fi_m be_m rk_m rl_m rw_m cl_m dg_m G0 Rm ⟨by first | decide | omega, by first | decide | omega⟩ ⟨by first | decide | omega, by first | decide | omega⟩ ⟨by first | decide | omega, by first | decide | omega⟩ ⟨by first | decide | omega, by first | decide | omega⟩ ⟨by first | decide | omega, by first | decide | omega⟩ ⟨by first | decide | omega, by first | decide | omega⟩ ⟨by first | decide | omega, by first | decide | omega⟩ ⟨by first | decide | omega, by first | decide | omega⟩ ⟨by first | decide | omega, by first | decide | omega⟩ ⟨by first | decide | omega, by first | decide | omega⟩ ⟨by first | decide | omega, by first | decide | omega⟩ ⟨by first | decide | omega, by first | decide | omega⟩) (cwV 1 hts gX12_mend_X12_isKey rfl rfl rfl (by decide +kernel) ⟨Nat.le_of_ble_eq_true rfl, Nat.le_of_ble_eq_true rfl⟩) (hw_pV (hw_rc (q := (RX12, TX12, 45)) hK vm rfl) hH hK hST hS (by decide) (fun _ h => Or.inl h) vm) rfl rfl hl.1 rfl (lv_room (Nat.le_of_ble_eq_true rfl)) dX12_mend_2 ⟨Nat.le_of_ble_eq_true rfl, Nat.le_of_ble_eq_true rfl⟩) (fun v hp => ?_)
  rcases hp with ⟨rfl, q1⟩ | ⟨rfl, q2⟩
  · refine lv_if_ne (tgt := 11) hx hb dX12_mend_5 (by decide) (fun c3 => ?_) (fun c3 => ?_)
    · refine lv_aload_n hx hb dX12_mend_11 rfl (lv_at hl 0 rfl) ?_
      refine hw_get hx hb fg_7_11 hK vm rfl dX12_mend_12 ?_
      refine lv_iconst (v := 3) hx hb dX12_mend_15 (by decide) ?_
      refine lv_iload_n hx hb dX12_mend_16 rfl (lv_at hl 1 rfl) ?_
      refine lv_iadd hx hb dX12_mend_17 ?_
      refine lv_topi (fun x4 e5 => ?_)
      have t6 : x4.toInt = 3 + p1.toInt := by rw [e5]; exact hw_add rfl rfl (by omega) (by omega)
      obtain ⟨f7, v8⟩ := hH.a40 (hw_RM_0 Rm)
      refine hw_iald hx hb hK v8 (hw_in (by omega) (by omega)) dX12_mend_18 ?_
      refine lv_topi (fun x10 e11 => ?_)
      refine lv_aload_n hx hb dX12_mend_19 rfl (lv_at hl 0 rfl) ?_
      refine hw_get hx hb fg_7_11 hK vm rfl dX12_mend_20 ?_
      refine lv_bipush (v := 10) hx hb dX12_mend_23 (by decide) ?_
      refine lv_iload_n hx hb dX12_mend_25 rfl (lv_at hl 1 rfl) ?_
      refine lv_iadd hx hb dX12_mend_26 ?_
      refine lv_topi (fun x12 e13 => ?_)
      have t14 : x12.toInt = 10 + p1.toInt := by rw [e13]; exact hw_add rfl rfl (by omega) (by omega)
      obtain ⟨f15, v16⟩ := hH.a40 (hw_RM_0 Rm)
      refine hw_iald hx hb hK v16 (hw_in (by omega) (by omega)) dX12_mend_27 ?_
      refine lv_topi (fun x18 e19 => ?_)
      refine lv_iadd hx hb dX12_mend_28 ?_
      refine lv_topi (fun x20 e21 => ?_)
      refine lv_istore_n (lv' := [(2, .int x20), (0, .ref h0), (1, .int p1)]) hx hb dX12_mend_29 rfl hl (by decide) rfl (fun ls hl => ?_)
      refine lv_iload_n hx hb dX12_mend_30 rfl (lv_at hl 0 rfl) ?_
      refine lv_if_ne (tgt := 37) hx hb dX12_mend_31 (by decide) (fun c22 => ?_) (fun c22 => ?_)
      · have b23 : x20.toInt ≠ 0 := hw_ine c22
        refine lv_aload_n hx hb dX12_mend_37 rfl (lv_at hl 1 rfl) ?_
        obtain ⟨f24, v25⟩ := hH.a40 (hw_RM_0 Rm)
        refine hw_cM0 (va_runV (As := []) (rest := []) ⟨hx, hb, hml, hown, hts⟩ (k_X12_keepPast l D G h0 _ rm ud_m ky_m lo_m wk_m dk_m ln_m sm_m fi_m be_m rk_m rl_m rw_m cl_m dg_m f24 G0 Rm ⟨by first | decide | omega, by first | decide | omega⟩ ⟨by first | decide | omega, by first | decide | omega⟩ ⟨by first | decide | omega, by first | decide | omega⟩ ⟨by first | decide | omega, by first | decide | omega⟩ ⟨by first | decide | omega, by first | decide | omega⟩ ⟨by first | decide | omega, by first | decide | omega⟩ ⟨by first | decide | omega, by first | decide | omega⟩ ⟨by first | decide | omega, by first | decide | omega⟩ ⟨by first | decide | omega, by first | decide | omega⟩ ⟨by first | decide | omega, by first | decide | omega⟩ ⟨by first | decide | omega, by first | decide | omega⟩ ⟨by first | decide | omega, by first | decide | omega⟩) (cwV 0 hts gX12_mend_X12_keepPast rfl rfl rfl (by decide +kernel) ⟨Nat.le_of_ble_eq_true rfl, Nat.le_of_ble_eq_true rfl⟩) (hw_pV (hw_rc (q := (RX12, TX12, 45)) hK vm rfl) hH hK hST hS (by decide) (fun _ h => Or.inl h) ⟨vm, v25⟩) rfl rfl hl.1 rfl (lv_room (Nat.le_of_ble_eq_true rfl)) dX12_mend_38 ⟨Nat.le_of_ble_eq_true rfl, Nat.le_of_ble_eq_true rfl⟩) hS (hw_AWsub (by decide) (fun _ _ => rfl) hS.1) (fun v H locs hp hz hk hS => ?_)
        obtain ⟨x27, f28, rfl, hH, v29, v30, g31, q32⟩ := hp
        refine lv_aload_n hx hb dX12_mend_41 rfl (lv_at hl 1 rfl) ?_
        refine hw_get hx hb fg_7_11 hK v29 rfl dX12_mend_42 ?_
        refine lv_iconst (v := 3) hx hb dX12_mend_45 (by decide) ?_
        refine lv_iload_n hx hb dX12_mend_46 rfl (lv_at hl 2 rfl) ?_
        refine lv_iadd hx hb dX12_mend_47 ?_
        refine lv_topi (fun x33 e34 => ?_)
        have t35 : x33.toInt = 3 + p1.toInt := by rw [e34]; exact hw_add rfl rfl (by omega) (by omega)
        refine lv_iconst (v := 0) hx hb dX12_mend_48 (by decide) ?_
        refine hw_iast hx hb hK hH v30 (hw_in (by omega) (by omega)) (fun _ => by rw [(hw_RM_0 Rm)]; exact ⟨_, rfl⟩) hS (hw_AWi (hw_RM_0 Rm) (by decide)) dX12_mend_49 (fun H locs hH v30 oq hz hS => ?_)
        have v29 := va_at.kept v29 (oq _ (hw_ne G0 (hw_RM_0 Rm) (by decide)))
        obtain ⟨f36, e37⟩ : ∃ z, z = upd f28 x33.toNatClampNeg 0 := ⟨_, rfl⟩
        rw [← e37] at v30
        refine lv_aload_n hx hb dX12_mend_50 rfl (lv_at hl 1 rfl) ?_
        refine hw_get hx hb fg_7_11 hK v29 rfl dX12_mend_51 ?_
        refine lv_bipush (v := 10) hx hb dX12_mend_54 (by decide) ?_
        refine lv_iload_n hx hb dX12_mend_56 rfl (lv_at hl 2 rfl) ?_
        refine lv_iadd hx hb dX12_mend_57 ?_
        refine lv_topi (fun x38 e39 => ?_)
        have t40 : x38.toInt = 10 + p1.toInt := by rw [e39]; exact hw_add rfl rfl (by omega) (by omega)
        refine lv_iconst (v := 0) hx hb dX12_mend_58 (by decide) ?_
        refine hw_iast hx hb hK hH v30 (hw_in (by omega) (by omega)) (fun _ => by rw [(hw_RM_0 Rm)]; exact ⟨_, rfl⟩) hS (hw_AWi (hw_RM_0 Rm) (by decide)) dX12_mend_59 (fun H locs hH v30 oq hz hS => ?_)
        have v29 := va_at.kept v29 (oq _ (hw_ne G0 (hw_RM_0 Rm) (by decide)))
        obtain ⟨f41, e42⟩ : ∃ z, z = upd f36 x38.toNatClampNeg 0 := ⟨_, rfl⟩
        rw [← e42] at v30
        refine lv_iload_n hx hb dX12_mend_60 rfl (lv_at hl 0 rfl) ?_
        exact hw_iretM (v := x20) hx hb hr hlocks hQ hS rfl (⟨x20, x27, rfl, hH, v29, ⟨by first | decide | omega, by first | decide | omega⟩, (by first | rfl | trivial | assumption | omega | (intros; first | rfl | assumption | omega | (exfalso; omega)))⟩) dX12_mend_61
      · have b43 : x20.toInt = 0 := hw_ieq c22
        refine lv_bipush (v := (-4)) hx hb dX12_mend_34 (by decide) ?_
        exact hw_iretM (v := (-4)) hx hb hr hlocks hQ hS rfl (⟨(-4), ud_m, rfl, hH, vm, ⟨by first | decide | omega, by first | decide | omega⟩, (by first | rfl | trivial | assumption | omega | (intros; first | rfl | assumption | omega | (exfalso; omega)))⟩) dX12_mend_36
    · exact absurd c3 (by decide)
  · refine lv_if_ne (tgt := 11) hx hb dX12_mend_5 (by decide) (fun c44 => ?_) (fun c44 => ?_)
    · exact absurd c44 (by decide)
    · refine lv_bipush (v := (-2)) hx hb dX12_mend_8 (by decide) ?_
      exact hw_iretM (v := (-2)) hx hb hr hlocks hQ hS rfl (⟨(-2), ud_m, rfl, hH, vm, ⟨by first | decide | omega, by first | decide | omega⟩, (by first | rfl | trivial | assumption | omega | (intros; first | rfl | assumption | omega | (exfalso; omega)))⟩) dX12_mend_10

set_option maxHeartbeats 4000000 in
set_option maxRecDepth 100000 in
theorem k_X12_day (l : Launch) (D : hw_D) (G : Nat → Nat) (h0 : Nat) (sz : Nat) (rm : Nat → Nat) (ud_m ky_m lo_m wk_m dk_m ln_m sm_m fi_m be_m rk_m rl_m rw_m cl_m dg_m : Int32) (fro : Nat → Int32) (G0 : G h0 = 9) (Rm : hw_RM G rm) (gud_m : 0 ≤ ud_m.toInt ∧ ud_m.toInt ≤ 8) (gky_m : 0 ≤ ky_m.toInt ∧ ky_m.toInt ≤ 7) (glo_m : 0 ≤ lo_m.toInt ∧ lo_m.toInt ≤ 7) (gwk_m : 0 ≤ wk_m.toInt ∧ wk_m.toInt ≤ 3) (gln_m : 0 ≤ ln_m.toInt ∧ ln_m.toInt ≤ 200) (gsm_m : 0 ≤ sm_m.toInt ∧ sm_m.toInt ≤ 6) (gfi_m : 0 ≤ fi_m.toInt ∧ fi_m.toInt ≤ 200) (gbe_m : 0 ≤ be_m.toInt ∧ be_m.toInt ≤ 200) (grk_m : 0 ≤ rk_m.toInt ∧ rk_m.toInt ≤ 7) (grl_m : 0 ≤ rl_m.toInt ∧ rl_m.toInt ≤ 7) (grw_m : 0 ≤ rw_m.toInt ∧ rw_m.toInt ≤ 3) (gdg_m : 0 ≤ dg_m.toInt ∧ dg_m.toInt ≤ 1) : Met l yX12_day wsX12_day ({ frames := 1, cells := 0, slots := 0, locals := 21 } : Room) (hw_PC D G [.ref h0] sz (fun H => va_at D.1 vwCl (h0, .inr (11, hw_LM rm ud_m ky_m lo_m wk_m dk_m ln_m sm_m fi_m be_m rk_m rl_m rw_m cl_m dg_m)) H ∧ va_at D.1 vwCl ((rm 0), .inl (D.2.1 0, 253, .inl fro)) H)) (hw_QM (fun v H => ∃ (r : Int32) (ud_m2 : Int32) (fro2 : Nat → Int32), v = some (.int r) ∧ hw_HT D G H ∧ va_at D.1 vwCl (h0, .inr (11, hw_LM rm ud_m2 ky_m lo_m wk_m dk_m ln_m sm_m fi_m be_m rk_m rl_m rw_m cl_m dg_m)) H ∧ va_at D.1 vwCl ((rm 0), .inl (D.2.1 0, 253, .inl fro2)) H ∧ (0 ≤ ud_m2.toInt ∧ ud_m2.toInt ≤ 8) ∧ ((fro 0).toInt = 0 → r.toInt = 1)) (hw_AW G [9, 40] sz)) 0 0 (hw_AW G [9, 40] sz) := by
  refine hw_met (cc := cX12_day) (maxL := 2) (ret := (some .int)) (plainFor_of_name (by decide)) rfl (Nat.le_of_ble_eq_true rfl) ?_
  intro p e s m args below meth c QQ ls hsz hx hb hml hr hts hown hlocks hnm hH hK hST hF hQ hl
  subst hsz
  have hS : va_S (hw_AW G [9, 40] s.heap.size) s.heap s.heap [] := va_S.rf
  obtain ⟨vm, vro⟩ := hF
  have hl : lv_has ls 2 [(0, .ref h0)] := hl
  have u_11 : ∀ w ∈ u_ws RX12 TX12 45, w.before args s = true := fun w hw => hts w ((by decide +kernel : ∀ w ∈ u_ws RX12 TX12 45, w ∈ wsX12_day) w hw)
  have fg_7_11 : hw_FG s args m 7 11 0 := ⟨RX12, "WardWalkersModel", RX12, TX12, 45, u_11, hown, rfl, by decide, (hts (.fieldLink RX12 7 "WardWalkersModel" "row" "[I") (by decide +kernel)), (fun _ h9 => h9)⟩
  refine lv_aload_n hx hb dX12_day_0 rfl (lv_at hl 0 rfl) ?_
  refine hw_get hx hb fg_7_11 hK vm rfl dX12_day_1 ?_
  refine lv_iconst (v := 0) hx hb dX12_day_4 (by decide) ?_
  refine hw_iald hx hb hK vro (hw_in (x := 0) (by decide) (by decide)) dX12_day_5 ?_
  refine lv_topi (fun x1 e2 => ?_)
  have hx0 : x1.toInt = (fro 0).toInt := by rw [e2]; rfl
  refine lv_sipush (v := 999) hx hb dX12_day_6 (by decide) ?_
  refine lv_icmp_ne (tgt := 15) hx hb dX12_day_9 (by decide) (fun c3 => ?_) (fun c3 => ?_)
  · have b4 : x1.toInt ≠ 999 := hw_ine c3
    refine lv_aload_n hx hb dX12_day_15 rfl (lv_at hl 0 rfl) ?_
    refine hw_cM0 (va_runV (As := []) (rest := []) ⟨hx, hb, hml, hown, hts⟩ (k_X12_keepPast l D G h0 _ rm ud_m ky_m lo_m wk_m dk_m ln_m sm_m fi_m be_m rk_m rl_m rw_m cl_m dg_m fro G0 Rm ⟨by first | decide | omega, by first | decide | omega⟩ ⟨by first | decide | omega, by first | decide | omega⟩ ⟨by first | decide | omega, by first | decide | omega⟩ ⟨by first | decide | omega, by first | decide | omega⟩ ⟨by first | decide | omega, by first | decide | omega⟩ ⟨by first | decide | omega, by first | decide | omega⟩ ⟨by first | decide | omega, by first | decide | omega⟩ ⟨by first | decide | omega, by first | decide | omega⟩ ⟨by first | decide | omega, by first | decide | omega⟩ ⟨by first | decide | omega, by first | decide | omega⟩ ⟨by first | decide | omega, by first | decide | omega⟩ ⟨by first | decide | omega, by first | decide | omega⟩) (cwV 0 hts gX12_day_X12_keepPast rfl rfl rfl (by decide +kernel) ⟨Nat.le_of_ble_eq_true rfl, Nat.le_of_ble_eq_true rfl⟩) (hw_pV (hw_rc (q := (RX12, TX12, 45)) hK vm rfl) hH hK hST hS (by decide) (fun _ h => Or.inl h) ⟨vm, vro⟩) rfl rfl hl.1 rfl (lv_room (Nat.le_of_ble_eq_true rfl)) dX12_day_16 ⟨Nat.le_of_ble_eq_true rfl, Nat.le_of_ble_eq_true rfl⟩) hS (hw_AWsub (by decide) (fun _ _ => rfl) hS.1) (fun v H locs hp hz hk hS => ?_)
    obtain ⟨x5, f6, rfl, hH, v7, v8, g9, q10⟩ := hp
    have hkp := q10
    refine lv_aload_n hx hb dX12_day_19 rfl (lv_at hl 0 rfl) ?_
    refine hw_get hx hb fg_7_11 hK v7 rfl dX12_day_20 ?_
    refine lv_iconst (v := 0) hx hb dX12_day_23 (by decide) ?_
    refine lv_dup2_11 hx hb dX12_day_24 rfl rfl ?_
    refine hw_iald hx hb hK v8 (hw_in (x := 0) (by decide) (by decide)) dX12_day_25 ?_
    refine lv_topi (fun x11 e12 => ?_)
    refine lv_iconst (v := 1) hx hb dX12_day_26 (by decide) ?_
    refine lv_iadd hx hb dX12_day_27 ?_
    refine lv_topi (fun x13 e14 => ?_)
    have hv : fro 0 = 0 → x13 = 1 := by intro h9; rw [e14, e12]; show f6 0 + 1 = 1; rw [hkp, h9]; rfl
    refine hw_iast hx hb hK hH v8 (hw_in (x := 0) (by decide) (by decide)) (fun _ => by rw [(hw_RM_0 Rm)]; exact ⟨_, rfl⟩) hS (hw_AWi (hw_RM_0 Rm) (by decide)) dX12_day_28 (fun H locs hH v8 oq hz hS => ?_)
    have v7 := va_at.kept v7 (oq _ (hw_ne G0 (hw_RM_0 Rm) (by decide)))
    obtain ⟨f15, e16⟩ : ∃ z, z = upd f6 (0 : Int32).toNatClampNeg x13 := ⟨_, rfl⟩
    rw [← e16] at v8
    refine lv_iconst (v := 0) hx hb dX12_day_29 (by decide) ?_
    refine lv_istore_n (lv' := [(1, .int 0), (0, .ref h0)]) hx hb dX12_day_30 rfl hl (by decide) rfl (fun ls hl => ?_)
    have L31 : ∀ (n20 : Nat) (y1_17 : Int32) (f18 : Nat → Int32) (hm : (3 - y1_17.toInt).toNat < n20) (g19 : 0 ≤ y1_17.toInt ∧ y1_17.toInt ≤ 3) (inv31_0 : fro 0 = 0 → f18 0 = 1) (H : Heap) (locs : List Loc) (hH : hw_HT D G H) (v7 : va_at D.1 vwCl (h0, .inr (11, hw_LM rm x5 ky_m lo_m wk_m dk_m ln_m sm_m fi_m be_m rk_m rl_m rw_m cl_m dg_m)) H) (v8 : va_at D.1 vwCl ((rm 0), .inl (D.2.1 0, 253, .inl f18)) H) (hS : va_S (hw_AW G [9, 40] s.heap.size) s.heap H locs) (ls : Array Slot) (hl : lv_has ls 2 [(1, .int y1_17), (0, .ref h0)]), W p l e ({ frames := 1, cells := 0, slots := 0, locals := 21 } : Room) s m args below meth c H locs 0 0 QQ (F0 m 31 ls []) := by
      intro n20
      induction n20 with
      | zero => intro y1_17 f18 hm; exact absurd hm (Nat.not_lt_zero _)
      | succ n20 ih31 =>
        intro y1_17 f18 hm g19 inv31_0 H locs hH v7 v8 hS ls hl
        refine lv_iload_n hx hb dX12_day_31 rfl (lv_at hl 0 rfl) ?_
        refine lv_iconst (v := 3) hx hb dX12_day_32 (by decide) ?_
        refine lv_icmp_ge (tgt := 52) hx hb dX12_day_33 (by decide) (fun c21 => ?_) (fun c21 => ?_)
        · have b22 : 3 ≤ y1_17.toInt := hw_ile c21
          refine lv_aload_n hx hb dX12_day_52 rfl (lv_at hl 1 rfl) ?_
          refine hw_get hx hb fg_7_11 hK v7 rfl dX12_day_53 ?_
          refine lv_iconst (v := 0) hx hb dX12_day_56 (by decide) ?_
          refine hw_iald hx hb hK v8 (hw_in (x := 0) (by decide) (by decide)) dX12_day_57 ?_
          refine lv_topi (fun x23 e24 => ?_)
          have hv2 : fro 0 = 0 → x23.toInt = 1 := by intro h9; rw [e24]; show (f18 0).toInt = 1; rw [inv31_0 h9]; rfl
          exact hw_iretM (v := x23) hx hb hr hlocks hQ hS rfl (⟨x23, x5, f18, rfl, hH, v7, v8, ⟨by first | decide | omega, by first | decide | omega⟩, (by first | (intro h9; exact hv2 (hw_z h9)) | (intro h9; exfalso; omega))⟩) dX12_day_58
        · have b25 : y1_17.toInt < 3 := hw_inle c21
          refine lv_aload_n hx hb dX12_day_36 rfl (lv_at hl 1 rfl) ?_
          refine hw_get hx hb fg_7_11 hK v7 rfl dX12_day_37 ?_
          refine lv_bipush (v := 20) hx hb dX12_day_40 (by decide) ?_
          refine lv_iload_n hx hb dX12_day_42 rfl (lv_at hl 0 rfl) ?_
          refine lv_iadd hx hb dX12_day_43 ?_
          refine lv_topi (fun x26 e27 => ?_)
          have t28 : x26.toInt = 20 + y1_17.toInt := by rw [e27]; exact hw_add rfl rfl (by omega) (by omega)
          refine lv_iconst (v := 0) hx hb dX12_day_44 (by decide) ?_
          refine hw_iast hx hb hK hH v8 (hw_in (by omega) (by omega)) (fun _ => by rw [(hw_RM_0 Rm)]; exact ⟨_, rfl⟩) hS (hw_AWi (hw_RM_0 Rm) (by decide)) dX12_day_45 (fun H locs hH v8 oq hz hS => ?_)
          have v7 := va_at.kept v7 (oq _ (hw_ne G0 (hw_RM_0 Rm) (by decide)))
          obtain ⟨f29, e30⟩ : ∃ z, z = upd f18 x26.toNatClampNeg 0 := ⟨_, rfl⟩
          rw [← e30] at v8
          obtain ⟨x31, e32⟩ : ∃ y : Int32, y = y1_17 + 1 := ⟨_, rfl⟩
          refine lv_iinc (v := x31) (lv' := [(1, .int x31), (0, .ref h0)]) hx hb dX12_day_46 hl (k := 0) rfl (by rw [e32]; rfl) (by decide) rfl (fun ls hl => ?_)
          have t33 : x31.toInt = y1_17.toInt + 1 := by rw [e32]; exact hw_add rfl rfl (by omega) (by omega)
          refine lv_goto (tgt := 31) hx hb dX12_day_49 (by decide) ?_
          exact ih31 x31 f29 (by first | omega | omega) ⟨by first | decide | omega, by first | decide | omega⟩ (by intro h9; rw [e30]; refine (hw_upd0 ?_).trans (inv31_0 h9); omega) _ _ hH v7 v8 hS _ (lv_sub hl [0, 1] rfl)
    exact L31 _ 0 f15 (Nat.lt_succ_self _) ⟨by first | decide | omega, by first | decide | omega⟩ (by intro h9; rw [e16, hw_upd00]; exact hv h9) _ _ hH v7 v8 hS _ (lv_sub hl [0, 1] rfl)
  · have b34 : x1.toInt = 999 := hw_ieq c3
    refine lv_bipush (v := (-5)) hx hb dX12_day_12 (by decide) ?_
    exact hw_iretM (v := (-5)) hx hb hr hlocks hQ hS rfl (⟨(-5), ud_m, fro, rfl, hH, vm, vro, ⟨by first | decide | omega, by first | decide | omega⟩, (by first | (intro h9; exact hv2 (hw_z h9)) | (intro h9; exfalso; omega))⟩) dX12_day_14

set_option maxHeartbeats 4000000 in
set_option maxRecDepth 100000 in
theorem k_X12_undo (l : Launch) (D : hw_D) (G : Nat → Nat) (h0 : Nat) (sz : Nat) (rm : Nat → Nat) (ud_m ky_m lo_m wk_m dk_m ln_m sm_m fi_m be_m rk_m rl_m rw_m cl_m dg_m : Int32) (G0 : G h0 = 9) (Rm : hw_RM G rm) (gud_m : 0 ≤ ud_m.toInt ∧ ud_m.toInt ≤ 8) (gky_m : 0 ≤ ky_m.toInt ∧ ky_m.toInt ≤ 7) (glo_m : 0 ≤ lo_m.toInt ∧ lo_m.toInt ≤ 7) (gwk_m : 0 ≤ wk_m.toInt ∧ wk_m.toInt ≤ 3) (gln_m : 0 ≤ ln_m.toInt ∧ ln_m.toInt ≤ 200) (gsm_m : 0 ≤ sm_m.toInt ∧ sm_m.toInt ≤ 6) (gfi_m : 0 ≤ fi_m.toInt ∧ fi_m.toInt ≤ 200) (gbe_m : 0 ≤ be_m.toInt ∧ be_m.toInt ≤ 200) (grk_m : 0 ≤ rk_m.toInt ∧ rk_m.toInt ≤ 7) (grl_m : 0 ≤ rl_m.toInt ∧ rl_m.toInt ≤ 7) (grw_m : 0 ≤ rw_m.toInt ∧ rw_m.toInt ≤ 3) (gdg_m : 0 ≤ dg_m.toInt ∧ dg_m.toInt ≤ 1) : Met l yX12_undo wsX12_undo ({ frames := 0, cells := 0, slots := 0, locals := 0 } : Room) (hw_PC D G [.ref h0] sz (fun H => va_at D.1 vwCl (h0, .inr (11, hw_LM rm ud_m ky_m lo_m wk_m dk_m ln_m sm_m fi_m be_m rk_m rl_m rw_m cl_m dg_m)) H)) (hw_QM (fun v H => ∃ (r : Int32) (ud_m2 : Int32), v = some (.int r) ∧ hw_HT D G H ∧ va_at D.1 vwCl (h0, .inr (11, hw_LM rm ud_m2 ky_m lo_m wk_m dk_m ln_m sm_m fi_m be_m rk_m rl_m rw_m cl_m dg_m)) H ∧ (0 ≤ ud_m2.toInt ∧ ud_m2.toInt ≤ 8) ∧ (ud_m.toInt = 0 → r.toInt = -4)) (hw_AW G [9, 40] sz)) 0 0 (hw_AW G [9, 40] sz) := by
  refine hw_met (cc := cX12_undo) (maxL := 2) (ret := (some .int)) (plainFor_of_name (by decide)) rfl (Nat.le_of_ble_eq_true rfl) ?_
  intro p e s m args below meth c QQ ls hsz hx hb hml hr hts hown hlocks hnm hH hK hST hF hQ hl
  subst hsz
  have hS : va_S (hw_AW G [9, 40] s.heap.size) s.heap s.heap [] := va_S.rf
  have vm := hF
  have hl : lv_has ls 2 [(0, .ref h0)] := hl
  have u_11 : ∀ w ∈ u_ws RX12 TX12 45, w.before args s = true := fun w hw => hts w ((by decide +kernel : ∀ w ∈ u_ws RX12 TX12 45, w ∈ wsX12_undo) w hw)
  have fg_205_11 : hw_FG s args m 205 11 1 := ⟨RX12, "WardWalkersModel", RX12, TX12, 45, u_11, hown, rfl, by decide, (hts (.fieldLink RX12 205 "WardWalkersModel" "undos" "I") (by decide +kernel)), (fun _ h9 => h9)⟩
  have fp_205_11 : hw_FP s args m 205 11 1 false .int := ⟨RX12, "WardWalkersModel", RX12, TX12, 45, tyX12, u_11, hown, rfl, by decide, (hts (.fieldLink RX12 205 "WardWalkersModel" "undos" "I") (by decide +kernel)), (fun _ h9 => h9), tyX12_ok, nmX12, rfl, (fun h => by cases h), by decide +kernel⟩
  have fg_7_11 : hw_FG s args m 7 11 0 := ⟨RX12, "WardWalkersModel", RX12, TX12, 45, u_11, hown, rfl, by decide, (hts (.fieldLink RX12 7 "WardWalkersModel" "row" "[I") (by decide +kernel)), (fun _ h9 => h9)⟩
  refine lv_aload_n hx hb dX12_undo_0 rfl (lv_at hl 0 rfl) ?_
  refine hw_get hx hb fg_205_11 hK vm rfl dX12_undo_1 ?_
  refine lv_if_ne (tgt := 10) hx hb dX12_undo_4 (by decide) (fun c1 => ?_) (fun c1 => ?_)
  · have b2 : ud_m.toInt ≠ 0 := hw_ine c1
    refine lv_aload_n hx hb dX12_undo_10 rfl (lv_at hl 0 rfl) ?_
    refine lv_dup hx hb dX12_undo_11 rfl ?_
    refine hw_get hx hb fg_205_11 hK vm rfl dX12_undo_12 ?_
    refine lv_iconst (v := 1) hx hb dX12_undo_15 (by decide) ?_
    refine lv_isub hx hb dX12_undo_16 ?_
    refine lv_topi (fun x3 e4 => ?_)
    have t5 : x3.toInt = ud_m.toInt - 1 := by rw [e4]; exact hw_sub rfl rfl (by omega) (by omega)
    refine hw_put (v := .int x3) (fs' := hw_LM rm x3 ky_m lo_m wk_m dk_m ln_m sm_m fi_m be_m rk_m rl_m rw_m cl_m dg_m) hx hb fp_205_11 hK hH vm (Nat.le_of_ble_eq_true rfl) rfl rfl rfl (fun _ => by rw [G0]; exact ⟨rm, x3, ky_m, lo_m, wk_m, dk_m, ln_m, sm_m, fi_m, be_m, rk_m, rl_m, rw_m, cl_m, dg_m, rfl, Rm, ⟨by first | decide | omega, by first | decide | omega⟩, ⟨by first | decide | omega, by first | decide | omega⟩, ⟨by first | decide | omega, by first | decide | omega⟩, ⟨by first | decide | omega, by first | decide | omega⟩, ⟨by first | decide | omega, by first | decide | omega⟩, ⟨by first | decide | omega, by first | decide | omega⟩, ⟨by first | decide | omega, by first | decide | omega⟩, ⟨by first | decide | omega, by first | decide | omega⟩, ⟨by first | decide | omega, by first | decide | omega⟩, ⟨by first | decide | omega, by first | decide | omega⟩, ⟨by first | decide | omega, by first | decide | omega⟩, ⟨by first | decide | omega, by first | decide | omega⟩⟩) hS (hw_AWi G0 (by decide)) dX12_undo_17 (fun H locs hH vm oq hz hS => ?_)
    refine lv_iconst (v := 0) hx hb dX12_undo_20 (by decide) ?_
    refine lv_istore_n (lv' := [(1, .int 0), (0, .ref h0)]) hx hb dX12_undo_21 rfl hl (by decide) rfl (fun ls hl => ?_)
    have L22 : ∀ (n8 : Nat) (y1_6 : Int32) (hm : (23 - y1_6.toInt).toNat < n8) (g7 : 0 ≤ y1_6.toInt ∧ y1_6.toInt ≤ 23) (H : Heap) (locs : List Loc) (hH : hw_HT D G H) (vm : va_at D.1 vwCl (h0, .inr (11, hw_LM rm x3 ky_m lo_m wk_m dk_m ln_m sm_m fi_m be_m rk_m rl_m rw_m cl_m dg_m)) H) (hS : va_S (hw_AW G [9, 40] s.heap.size) s.heap H locs) (ls : Array Slot) (hl : lv_has ls 2 [(1, .int y1_6), (0, .ref h0)]), W p l e ({ frames := 0, cells := 0, slots := 0, locals := 0 } : Room) s m args below meth c H locs 0 0 QQ (F0 m 22 ls []) := by
      intro n8
      induction n8 with
      | zero => intro y1_6 hm; exact absurd hm (Nat.not_lt_zero _)
      | succ n8 ih22 =>
        intro y1_6 hm g7 H locs hH vm hS ls hl
        refine lv_iload_n hx hb dX12_undo_22 rfl (lv_at hl 0 rfl) ?_
        refine lv_bipush (v := 23) hx hb dX12_undo_23 (by decide) ?_
        refine lv_icmp_ge (tgt := 57) hx hb dX12_undo_25 (by decide) (fun c9 => ?_) (fun c9 => ?_)
        · have b10 : 23 ≤ y1_6.toInt := hw_ile c9
          refine lv_aload_n hx hb dX12_undo_57 rfl (lv_at hl 1 rfl) ?_
          refine hw_get hx hb fg_205_11 hK vm rfl dX12_undo_58 ?_
          exact hw_iretM (v := x3) hx hb hr hlocks hQ hS rfl (⟨x3, x3, rfl, hH, vm, ⟨by first | decide | omega, by first | decide | omega⟩, (by first | rfl | trivial | assumption | omega | (intros; first | rfl | assumption | omega | (exfalso; omega)))⟩) dX12_undo_61
        · have b11 : y1_6.toInt < 23 := hw_inle c9
          refine lv_aload_n hx hb dX12_undo_28 rfl (lv_at hl 1 rfl) ?_
          refine hw_get hx hb fg_7_11 hK vm rfl dX12_undo_29 ?_
          refine lv_iload_n hx hb dX12_undo_32 rfl (lv_at hl 0 rfl) ?_
          refine lv_aload_n hx hb dX12_undo_33 rfl (lv_at hl 1 rfl) ?_
          refine hw_get hx hb fg_7_11 hK vm rfl dX12_undo_34 ?_
          refine lv_bipush (v := 23) hx hb dX12_undo_37 (by decide) ?_
          refine lv_bipush (v := 23) hx hb dX12_undo_39 (by decide) ?_
          refine lv_aload_n hx hb dX12_undo_41 rfl (lv_at hl 1 rfl) ?_
          refine hw_get hx hb fg_205_11 hK vm rfl dX12_undo_42 ?_
          refine lv_imul hx hb dX12_undo_45 ?_
          refine lv_topi (fun x12 e13 => ?_)
          have t14 : x12.toInt = 23 * x3.toInt := by rw [e13]; exact hw_mul rfl rfl (by omega) (by omega)
          refine lv_iadd hx hb dX12_undo_46 ?_
          refine lv_topi (fun x15 e16 => ?_)
          have t17 : x15.toInt = 23 + x12.toInt := by rw [e16]; exact hw_add rfl rfl (by omega) (by omega)
          refine lv_iload_n hx hb dX12_undo_47 rfl (lv_at hl 0 rfl) ?_
          refine lv_iadd hx hb dX12_undo_48 ?_
          refine lv_topi (fun x18 e19 => ?_)
          have t20 : x18.toInt = x15.toInt + y1_6.toInt := by rw [e19]; exact hw_add rfl rfl (by omega) (by omega)
          obtain ⟨f21, v22⟩ := hH.a40 (hw_RM_0 Rm)
          refine hw_iald hx hb hK v22 (hw_in (by omega) (by omega)) dX12_undo_49 ?_
          refine lv_topi (fun x24 e25 => ?_)
          obtain ⟨f26, v27⟩ := hH.a40 (hw_RM_0 Rm)
          refine hw_iast hx hb hK hH v27 (hw_in (by omega) (by omega)) (fun _ => by rw [(hw_RM_0 Rm)]; exact ⟨_, rfl⟩) hS (hw_AWi (hw_RM_0 Rm) (by decide)) dX12_undo_50 (fun H locs hH v27 oq hz hS => ?_)
          have vm := va_at.kept vm (oq _ (hw_ne G0 (hw_RM_0 Rm) (by decide)))
          obtain ⟨x29, e30⟩ : ∃ y : Int32, y = y1_6 + 1 := ⟨_, rfl⟩
          refine lv_iinc (v := x29) (lv' := [(1, .int x29), (0, .ref h0)]) hx hb dX12_undo_51 hl (k := 0) rfl (by rw [e30]; rfl) (by decide) rfl (fun ls hl => ?_)
          have t31 : x29.toInt = y1_6.toInt + 1 := by rw [e30]; exact hw_add rfl rfl (by omega) (by omega)
          refine lv_goto (tgt := 22) hx hb dX12_undo_54 (by decide) ?_
          exact ih22 x29 (by first | omega | omega) ⟨by first | decide | omega, by first | decide | omega⟩ _ _ hH vm hS _ (lv_sub hl [0, 1] rfl)
    exact L22 _ 0 (Nat.lt_succ_self _) ⟨by first | decide | omega, by first | decide | omega⟩ _ _ hH vm hS _ (lv_sub hl [0, 1] rfl)
  · have b32 : ud_m.toInt = 0 := hw_ieq c1
    refine lv_bipush (v := (-4)) hx hb dX12_undo_7 (by decide) ?_
    exact hw_iretM (v := (-4)) hx hb hr hlocks hQ hS rfl (⟨(-4), ud_m, rfl, hH, vm, ⟨by first | decide | omega, by first | decide | omega⟩, (by first | rfl | trivial | assumption | omega | (intros; first | rfl | assumption | omega | (exfalso; omega)))⟩) dX12_undo_9

set_option maxHeartbeats 4000000 in
set_option maxRecDepth 100000 in
theorem k_X12_keep (l : Launch) (D : hw_D) (G : Nat → Nat) (h0 : Nat) (p1 : Int32) (sz : Nat) (rm : Nat → Nat) (ud_m ky_m lo_m wk_m dk_m ln_m sm_m fi_m be_m rk_m rl_m rw_m cl_m dg_m : Int32) (fro : Nat → Int32) (G0 : G h0 = 9) (Rm : hw_RM G rm) (gud_m : 0 ≤ ud_m.toInt ∧ ud_m.toInt ≤ 8) (gky_m : 0 ≤ ky_m.toInt ∧ ky_m.toInt ≤ 7) (glo_m : 0 ≤ lo_m.toInt ∧ lo_m.toInt ≤ 7) (gwk_m : 0 ≤ wk_m.toInt ∧ wk_m.toInt ≤ 3) (gln_m : 0 ≤ ln_m.toInt ∧ ln_m.toInt ≤ 200) (gsm_m : 0 ≤ sm_m.toInt ∧ sm_m.toInt ≤ 6) (gfi_m : 0 ≤ fi_m.toInt ∧ fi_m.toInt ≤ 200) (gbe_m : 0 ≤ be_m.toInt ∧ be_m.toInt ≤ 200) (grk_m : 0 ≤ rk_m.toInt ∧ rk_m.toInt ≤ 7) (grl_m : 0 ≤ rl_m.toInt ∧ rl_m.toInt ≤ 7) (grw_m : 0 ≤ rw_m.toInt ∧ rw_m.toInt ≤ 3) (gdg_m : 0 ≤ dg_m.toInt ∧ dg_m.toInt ≤ 1) : Met l yX12_keep wsX12_keep ({ frames := 1, cells := 0, slots := 0, locals := 25 } : Room) (hw_PC D G [.ref h0, .int p1] sz (fun H => va_at D.1 vwCl (h0, .inr (11, hw_LM rm ud_m ky_m lo_m wk_m dk_m ln_m sm_m fi_m be_m rk_m rl_m rw_m cl_m dg_m)) H ∧ va_at D.1 vwCl ((rm 0), .inl (D.2.1 0, 253, .inl fro)) H)) (hw_QM (fun v H => (∃ (fro2 : Nat → Int32), v = some (.int (-2)) ∧ hw_HT D G H ∧ va_at D.1 vwCl (h0, .inr (11, hw_LM rm ud_m ky_m lo_m wk_m dk_m ln_m sm_m fi_m be_m rk_m rl_m rw_m cl_m dg_m)) H ∧ va_at D.1 vwCl ((rm 0), .inl (D.2.1 0, 253, .inl fro2)) H ∧ (p1.toInt < 0 ∨ 1 < p1.toInt)) ∨ (∃ (r : Int32) (fro2 : Nat → Int32), v = some (.int r) ∧ hw_HT D G H ∧ va_at D.1 vwCl (h0, .inr (11, hw_LM rm ud_m ky_m lo_m wk_m dk_m ln_m sm_m fi_m be_m rk_m rl_m rw_m cl_m dg_m)) H ∧ va_at D.1 vwCl ((rm 0), .inl (D.2.1 0, 253, .inl fro2)) H ∧ (0 ≤ p1.toInt ∧ p1.toInt ≤ 1) ∧ r = fro 0)) (hw_AW G [40, 42] sz)) 0 0 (hw_AW G [40, 42] sz) := by
  refine hw_met (cc := cX12_keep) (maxL := 3) (ret := (some .int)) (plainFor_of_name (by decide)) rfl (Nat.le_of_ble_eq_true rfl) ?_
  intro p e s m args below meth c QQ ls hsz hx hb hml hr hts hown hlocks hnm hH hK hST hF hQ hl
  subst hsz
  have hS : va_S (hw_AW G [40, 42] s.heap.size) s.heap s.heap [] := va_S.rf
  obtain ⟨vm, vro⟩ := hF
  have hl : lv_has ls 3 [(0, .ref h0), (1, .int p1)] := hl
  have u_11 : ∀ w ∈ u_ws RX12 TX12 45, w.before args s = true := fun w hw => hts w ((by decide +kernel : ∀ w ∈ u_ws RX12 TX12 45, w ∈ wsX12_keep) w hw)
  have fg_13_11 : hw_FG s args m 13 11 2 := ⟨RX12, "WardWalkersModel", RX12, TX12, 45, u_11, hown, rfl, by decide, (hts (.fieldLink RX12 13 "WardWalkersModel" "isKept" "[Z") (by decide +kernel)), (fun _ h9 => h9)⟩
  have fg_7_11 : hw_FG s args m 7 11 0 := ⟨RX12, "WardWalkersModel", RX12, TX12, 45, u_11, hown, rfl, by decide, (hts (.fieldLink RX12 7 "WardWalkersModel" "row" "[I") (by decide +kernel)), (fun _ h9 => h9)⟩
  refine lv_iload_n hx hb dX12_keep_0 rfl (lv_at hl 1 rfl) ?_
  refine lv_i2l hx hb dX12_keep_1 rfl ?_
  refine lv_topl (fun x1 e2 => ?_)
  have t3 : x1.toInt = p1.toInt := by rw [e2]; exact hw_i2l _
  have rg4 := hw_rng p1
  refine lv_lconst (v := 0) hx hb dX12_keep_2 (by decide) ?_
  refine lv_lconst (v := 1) hx hb dX12_keep_3 (by decide) ?_
  refine hw_cR (va_runS (As := [.long x1, .long 0, .long 1]) (rest := []) ⟨hx, hb, hml, hown, hts⟩ (k_X12_in l D G x1 0 1 _) (va_cwS 3 hts gX12_keep_X12_in rfl rfl rfl (by decide +kernel) ⟨Nat.le_of_ble_eq_true rfl, Nat.le_of_ble_eq_true rfl⟩) (hw_pS hH hK hST hS (by decide) (fun _ h => Or.inl h) trivial) rfl rfl hl.1 rfl (lv_room (Nat.le_of_ble_eq_true rfl)) dX12_keep_4 ⟨Nat.le_of_ble_eq_true rfl, Nat.le_of_ble_eq_true rfl⟩) (fun v hp => ?_)
  have l5 : (0 : Int64).toInt = 0 := by decide
  have l6 : (1 : Int64).toInt = 1 := by decide
  rcases hp with ⟨rfl, q7⟩ | ⟨rfl, q8⟩
  · refine lv_if_ne (tgt := 13) hx hb dX12_keep_7 (by decide) (fun c9 => ?_) (fun c9 => ?_)
    · refine lv_iconst (v := 0) hx hb dX12_keep_13 (by decide) ?_
      refine lv_istore_n (lv' := [(2, .int 0), (0, .ref h0), (1, .int p1)]) hx hb dX12_keep_14 rfl hl (by decide) rfl (fun ls hl => ?_)
      have L15 : ∀ (n13 : Nat) (y2_10 : Int32) (f11 : Nat → Int32) (hm : (23 - y2_10.toInt).toNat < n13) (g12 : 0 ≤ y2_10.toInt ∧ y2_10.toInt ≤ 23) (inv15_0 : f11 0 = fro 0) (H : Heap) (locs : List Loc) (hH : hw_HT D G H) (vm : va_at D.1 vwCl (h0, .inr (11, hw_LM rm ud_m ky_m lo_m wk_m dk_m ln_m sm_m fi_m be_m rk_m rl_m rw_m cl_m dg_m)) H) (vro : va_at D.1 vwCl ((rm 0), .inl (D.2.1 0, 253, .inl f11)) H) (hS : va_S (hw_AW G [40, 42] s.heap.size) s.heap H locs) (ls : Array Slot) (hl : lv_has ls 3 [(2, .int y2_10), (0, .ref h0), (1, .int p1)]), W p l e ({ frames := 1, cells := 0, slots := 0, locals := 25 } : Room) s m args below meth c H locs 0 0 QQ (F0 m 15 ls []) := by
        intro n13
        induction n13 with
        | zero => intro y2_10 f11 hm; exact absurd hm (Nat.not_lt_zero _)
        | succ n13 ih15 =>
          intro y2_10 f11 hm g12 inv15_0 H locs hH vm vro hS ls hl
          refine lv_iload_n hx hb dX12_keep_15 rfl (lv_at hl 0 rfl) ?_
          refine lv_bipush (v := 23) hx hb dX12_keep_16 (by decide) ?_
          refine lv_icmp_ge (tgt := 48) hx hb dX12_keep_18 (by decide) (fun c14 => ?_) (fun c14 => ?_)
          · have b15 : 23 ≤ y2_10.toInt := hw_ile c14
            refine lv_aload_n hx hb dX12_keep_48 rfl (lv_at hl 1 rfl) ?_
            refine hw_get hx hb fg_13_11 hK vm rfl dX12_keep_49 ?_
            refine lv_iload_n hx hb dX12_keep_52 rfl (lv_at hl 2 rfl) ?_
            refine lv_iconst (v := 1) hx hb dX12_keep_53 (by decide) ?_
            obtain ⟨f16, v17⟩ := hH.a42 (hw_RM_2 Rm)
            refine hw_zast hx hb hK hH v17 (hw_in (by omega) (by omega)) (fun _ => by rw [(hw_RM_2 Rm)]; exact ⟨_, rfl⟩) hS (hw_AWi (hw_RM_2 Rm) (by decide)) dX12_keep_54 (fun H locs hH v17 oq hz hS => ?_)
            have vm := va_at.kept vm (oq _ (hw_ne G0 (hw_RM_2 Rm) (by decide)))
            have vro := va_at.kept vro (oq _ (hw_ne (hw_RM_0 Rm) (hw_RM_2 Rm) (by decide)))
            refine lv_aload_n hx hb dX12_keep_55 rfl (lv_at hl 1 rfl) ?_
            refine hw_get hx hb fg_7_11 hK vm rfl dX12_keep_56 ?_
            refine lv_iconst (v := 0) hx hb dX12_keep_59 (by decide) ?_
            refine hw_iald hx hb hK vro (hw_in (x := 0) (by decide) (by decide)) dX12_keep_60 ?_
            refine lv_topi (fun x19 e20 => ?_)
            exact hw_iretM (v := x19) hx hb hr hlocks hQ hS rfl (Or.inr (⟨x19, f11, rfl, hH, vm, vro, (by first | rfl | trivial | assumption | omega | (intros; first | rfl | assumption | omega | (exfalso; omega))), (by rw [e20]; exact inv15_0)⟩)) dX12_keep_61
          · have b21 : y2_10.toInt < 23 := hw_inle c14
            refine lv_aload_n hx hb dX12_keep_21 rfl (lv_at hl 1 rfl) ?_
            refine hw_get hx hb fg_7_11 hK vm rfl dX12_keep_22 ?_
            refine lv_sipush (v := 207) hx hb dX12_keep_25 (by decide) ?_
            refine lv_bipush (v := 23) hx hb dX12_keep_28 (by decide) ?_
            refine lv_iload_n hx hb dX12_keep_30 rfl (lv_at hl 2 rfl) ?_
            refine lv_imul hx hb dX12_keep_31 ?_
            refine lv_topi (fun x22 e23 => ?_)
            have t24 : x22.toInt = 23 * p1.toInt := by rw [e23]; exact hw_mul rfl rfl (by omega) (by omega)
            refine lv_iadd hx hb dX12_keep_32 ?_
            refine lv_topi (fun x25 e26 => ?_)
            have t27 : x25.toInt = 207 + x22.toInt := by rw [e26]; exact hw_add rfl rfl (by omega) (by omega)
            refine lv_iload_n hx hb dX12_keep_33 rfl (lv_at hl 0 rfl) ?_
            refine lv_iadd hx hb dX12_keep_34 ?_
            refine lv_topi (fun x28 e29 => ?_)
            have t30 : x28.toInt = x25.toInt + y2_10.toInt := by rw [e29]; exact hw_add rfl rfl (by omega) (by omega)
            refine lv_aload_n hx hb dX12_keep_35 rfl (lv_at hl 1 rfl) ?_
            refine hw_get hx hb fg_7_11 hK vm rfl dX12_keep_36 ?_
            refine lv_iload_n hx hb dX12_keep_39 rfl (lv_at hl 0 rfl) ?_
            refine hw_iald hx hb hK vro (hw_in (by omega) (by omega)) dX12_keep_40 ?_
            refine lv_topi (fun x31 e32 => ?_)
            refine hw_iast hx hb hK hH vro (hw_in (by omega) (by omega)) (fun _ => by rw [(hw_RM_0 Rm)]; exact ⟨_, rfl⟩) hS (hw_AWi (hw_RM_0 Rm) (by decide)) dX12_keep_41 (fun H locs hH vro oq hz hS => ?_)
            have vm := va_at.kept vm (oq _ (hw_ne G0 (hw_RM_0 Rm) (by decide)))
            obtain ⟨f33, e34⟩ : ∃ z, z = upd f11 x28.toNatClampNeg x31 := ⟨_, rfl⟩
            rw [← e34] at vro
            obtain ⟨x35, e36⟩ : ∃ y : Int32, y = y2_10 + 1 := ⟨_, rfl⟩
            refine lv_iinc (v := x35) (lv' := [(2, .int x35), (0, .ref h0), (1, .int p1)]) hx hb dX12_keep_42 hl (k := 0) rfl (by rw [e36]; rfl) (by decide) rfl (fun ls hl => ?_)
            have t37 : x35.toInt = y2_10.toInt + 1 := by rw [e36]; exact hw_add rfl rfl (by omega) (by omega)
            refine lv_goto (tgt := 15) hx hb dX12_keep_45 (by decide) ?_
            exact ih15 x35 f33 (by first | omega | omega) ⟨by first | decide | omega, by first | decide | omega⟩ (by rw [e34]; refine (hw_upd0 ?_).trans inv15_0; omega) _ _ hH vm vro hS _ (lv_sub hl [0, 1, 2] rfl)
      exact L15 _ 0 fro (Nat.lt_succ_self _) ⟨by first | decide | omega, by first | decide | omega⟩ (by rfl) _ _ hH vm vro hS _ (lv_sub hl [0, 1, 2] rfl)
    · exact absurd c9 (by decide)
  · refine lv_if_ne (tgt := 13) hx hb dX12_keep_7 (by decide) (fun c38 => ?_) (fun c38 => ?_)
    · exact absurd c38 (by decide)
    · refine lv_bipush (v := (-2)) hx hb dX12_keep_10 (by decide) ?_
      exact hw_iretM (v := (-2)) hx hb hr hlocks hQ hS rfl (Or.inl ⟨fro, rfl, hH, vm, vro, (by first | rfl | trivial | assumption | omega | (intros; first | rfl | assumption | omega | (exfalso; omega)))⟩) dX12_keep_12

set_option maxHeartbeats 4000000 in
set_option maxRecDepth 100000 in
theorem k_X12_back (l : Launch) (D : hw_D) (G : Nat → Nat) (h0 : Nat) (p1 : Int32) (sz : Nat) (rm : Nat → Nat) (ud_m ky_m lo_m wk_m dk_m ln_m sm_m fi_m be_m rk_m rl_m rw_m cl_m dg_m : Int32) (fik : Nat → Int32) (G0 : G h0 = 9) (Rm : hw_RM G rm) (gud_m : 0 ≤ ud_m.toInt ∧ ud_m.toInt ≤ 8) (gky_m : 0 ≤ ky_m.toInt ∧ ky_m.toInt ≤ 7) (glo_m : 0 ≤ lo_m.toInt ∧ lo_m.toInt ≤ 7) (gwk_m : 0 ≤ wk_m.toInt ∧ wk_m.toInt ≤ 3) (gln_m : 0 ≤ ln_m.toInt ∧ ln_m.toInt ≤ 200) (gsm_m : 0 ≤ sm_m.toInt ∧ sm_m.toInt ≤ 6) (gfi_m : 0 ≤ fi_m.toInt ∧ fi_m.toInt ≤ 200) (gbe_m : 0 ≤ be_m.toInt ∧ be_m.toInt ≤ 200) (grk_m : 0 ≤ rk_m.toInt ∧ rk_m.toInt ≤ 7) (grl_m : 0 ≤ rl_m.toInt ∧ rl_m.toInt ≤ 7) (grw_m : 0 ≤ rw_m.toInt ∧ rw_m.toInt ≤ 3) (gdg_m : 0 ≤ dg_m.toInt ∧ dg_m.toInt ≤ 1) : Met l yX12_back wsX12_back ({ frames := 1, cells := 0, slots := 0, locals := 25 } : Room) (hw_PC D G [.ref h0, .int p1] sz (fun H => va_at D.1 vwCl (h0, .inr (11, hw_LM rm ud_m ky_m lo_m wk_m dk_m ln_m sm_m fi_m be_m rk_m rl_m rw_m cl_m dg_m)) H ∧ va_at D.1 vwCl ((rm 2), .inl (D.2.1 2, 2, .inl fik)) H)) (hw_QM (fun v H => (∃ (ud_m2 : Int32), v = some (.int (-2)) ∧ hw_HT D G H ∧ va_at D.1 vwCl (h0, .inr (11, hw_LM rm ud_m2 ky_m lo_m wk_m dk_m ln_m sm_m fi_m be_m rk_m rl_m rw_m cl_m dg_m)) H ∧ va_at D.1 vwCl ((rm 2), .inl (D.2.1 2, 2, .inl fik)) H ∧ (0 ≤ ud_m2.toInt ∧ ud_m2.toInt ≤ 8) ∧ (p1.toInt < 0 ∨ 1 < p1.toInt)) ∨ (∃ (ud_m2 : Int32), v = some (.int (-4)) ∧ hw_HT D G H ∧ va_at D.1 vwCl (h0, .inr (11, hw_LM rm ud_m2 ky_m lo_m wk_m dk_m ln_m sm_m fi_m be_m rk_m rl_m rw_m cl_m dg_m)) H ∧ va_at D.1 vwCl ((rm 2), .inl (D.2.1 2, 2, .inl fik)) H ∧ (0 ≤ ud_m2.toInt ∧ ud_m2.toInt ≤ 8) ∧ (0 ≤ p1.toInt ∧ p1.toInt ≤ 1)) ∨ (∃ (r : Int32) (ud_m2 : Int32), v = some (.int r) ∧ hw_HT D G H ∧ va_at D.1 vwCl (h0, .inr (11, hw_LM rm ud_m2 ky_m lo_m wk_m dk_m ln_m sm_m fi_m be_m rk_m rl_m rw_m cl_m dg_m)) H ∧ va_at D.1 vwCl ((rm 2), .inl (D.2.1 2, 2, .inl fik)) H ∧ (0 ≤ ud_m2.toInt ∧ ud_m2.toInt ≤ 8) ∧ (0 ≤ p1.toInt ∧ p1.toInt ≤ 1) ∧ (fik p1.toNatClampNeg).toInt ≠ 0)) (hw_AW G [9, 40] sz)) 0 0 (hw_AW G [9, 40] sz) := by
  refine hw_met (cc := cX12_back) (maxL := 3) (ret := (some .int)) (plainFor_of_name (by decide)) rfl (Nat.le_of_ble_eq_true rfl) ?_
  intro p e s m args below meth c QQ ls hsz hx hb hml hr hts hown hlocks hnm hH hK hST hF hQ hl
  subst hsz
  have hS : va_S (hw_AW G [9, 40] s.heap.size) s.heap s.heap [] := va_S.rf
  obtain ⟨vm, vik⟩ := hF
  have hl : lv_has ls 3 [(0, .ref h0), (1, .int p1)] := hl
  have u_11 : ∀ w ∈ u_ws RX12 TX12 45, w.before args s = true := fun w hw => hts w ((by decide +kernel : ∀ w ∈ u_ws RX12 TX12 45, w ∈ wsX12_back) w hw)
  have fg_13_11 : hw_FG s args m 13 11 2 := ⟨RX12, "WardWalkersModel", RX12, TX12, 45, u_11, hown, rfl, by decide, (hts (.fieldLink RX12 13 "WardWalkersModel" "isKept" "[Z") (by decide +kernel)), (fun _ h9 => h9)⟩
  have fp_205_11 : hw_FP s args m 205 11 1 false .int := ⟨RX12, "WardWalkersModel", RX12, TX12, 45, tyX12, u_11, hown, rfl, by decide, (hts (.fieldLink RX12 205 "WardWalkersModel" "undos" "I") (by decide +kernel)), (fun _ h9 => h9), tyX12_ok, nmX12, rfl, (fun h => by cases h), by decide +kernel⟩
  have fg_7_11 : hw_FG s args m 7 11 0 := ⟨RX12, "WardWalkersModel", RX12, TX12, 45, u_11, hown, rfl, by decide, (hts (.fieldLink RX12 7 "WardWalkersModel" "row" "[I") (by decide +kernel)), (fun _ h9 => h9)⟩
  refine lv_iload_n hx hb dX12_back_0 rfl (lv_at hl 1 rfl) ?_
  refine lv_i2l hx hb dX12_back_1 rfl ?_
  refine lv_topl (fun x1 e2 => ?_)
  have t3 : x1.toInt = p1.toInt := by rw [e2]; exact hw_i2l _
  have rg4 := hw_rng p1
  refine lv_lconst (v := 0) hx hb dX12_back_2 (by decide) ?_
  refine lv_lconst (v := 1) hx hb dX12_back_3 (by decide) ?_
  refine hw_cR (va_runS (As := [.long x1, .long 0, .long 1]) (rest := []) ⟨hx, hb, hml, hown, hts⟩ (k_X12_in l D G x1 0 1 _) (va_cwS 3 hts gX12_back_X12_in rfl rfl rfl (by decide +kernel) ⟨Nat.le_of_ble_eq_true rfl, Nat.le_of_ble_eq_true rfl⟩) (hw_pS hH hK hST hS (by decide) (fun _ h => Or.inl h) trivial) rfl rfl hl.1 rfl (lv_room (Nat.le_of_ble_eq_true rfl)) dX12_back_4 ⟨Nat.le_of_ble_eq_true rfl, Nat.le_of_ble_eq_true rfl⟩) (fun v hp => ?_)
  have l5 : (0 : Int64).toInt = 0 := by decide
  have l6 : (1 : Int64).toInt = 1 := by decide
  rcases hp with ⟨rfl, q7⟩ | ⟨rfl, q8⟩
  · refine lv_if_ne (tgt := 13) hx hb dX12_back_7 (by decide) (fun c9 => ?_) (fun c9 => ?_)
    · refine lv_aload_n hx hb dX12_back_13 rfl (lv_at hl 0 rfl) ?_
      refine hw_get hx hb fg_13_11 hK vm rfl dX12_back_14 ?_
      refine lv_iload_n hx hb dX12_back_17 rfl (lv_at hl 1 rfl) ?_
      refine hw_zald hx hb hK vik (hw_in (by omega) (by omega)) dX12_back_18 ?_
      refine lv_topi (fun x10 e11 => ?_)
      have hik : x10.toInt = (fik p1.toNatClampNeg).toInt := by rw [e11]
      refine lv_if_ne (tgt := 25) hx hb dX12_back_19 (by decide) (fun c12 => ?_) (fun c12 => ?_)
      · have b13 : x10.toInt ≠ 0 := hw_ine c12
        refine lv_iconst (v := 0) hx hb dX12_back_25 (by decide) ?_
        refine lv_istore_n (lv' := [(2, .int 0), (0, .ref h0), (1, .int p1)]) hx hb dX12_back_26 rfl hl (by decide) rfl (fun ls hl => ?_)
        have L27 : ∀ (n16 : Nat) (y2_14 : Int32) (hm : (23 - y2_14.toInt).toNat < n16) (g15 : 0 ≤ y2_14.toInt ∧ y2_14.toInt ≤ 23) (H : Heap) (locs : List Loc) (hH : hw_HT D G H) (vm : va_at D.1 vwCl (h0, .inr (11, hw_LM rm ud_m ky_m lo_m wk_m dk_m ln_m sm_m fi_m be_m rk_m rl_m rw_m cl_m dg_m)) H) (vik : va_at D.1 vwCl ((rm 2), .inl (D.2.1 2, 2, .inl fik)) H) (hS : va_S (hw_AW G [9, 40] s.heap.size) s.heap H locs) (ls : Array Slot) (hl : lv_has ls 3 [(2, .int y2_14), (0, .ref h0), (1, .int p1)]), W p l e ({ frames := 1, cells := 0, slots := 0, locals := 25 } : Room) s m args below meth c H locs 0 0 QQ (F0 m 27 ls []) := by
          intro n16
          induction n16 with
          | zero => intro y2_14 hm; exact absurd hm (Nat.not_lt_zero _)
          | succ n16 ih27 =>
            intro y2_14 hm g15 H locs hH vm vik hS ls hl
            refine lv_iload_n hx hb dX12_back_27 rfl (lv_at hl 0 rfl) ?_
            refine lv_bipush (v := 23) hx hb dX12_back_28 (by decide) ?_
            refine lv_icmp_ge (tgt := 60) hx hb dX12_back_30 (by decide) (fun c17 => ?_) (fun c17 => ?_)
            · have b18 : 23 ≤ y2_14.toInt := hw_ile c17
              refine lv_aload_n hx hb dX12_back_60 rfl (lv_at hl 1 rfl) ?_
              refine lv_iconst (v := 0) hx hb dX12_back_61 (by decide) ?_
              refine hw_put (v := .int 0) (fs' := hw_LM rm 0 ky_m lo_m wk_m dk_m ln_m sm_m fi_m be_m rk_m rl_m rw_m cl_m dg_m) hx hb fp_205_11 hK hH vm (Nat.le_of_ble_eq_true rfl) rfl rfl rfl (fun _ => by rw [G0]; exact ⟨rm, 0, ky_m, lo_m, wk_m, dk_m, ln_m, sm_m, fi_m, be_m, rk_m, rl_m, rw_m, cl_m, dg_m, rfl, Rm, ⟨by first | decide | omega, by first | decide | omega⟩, ⟨by first | decide | omega, by first | decide | omega⟩, ⟨by first | decide | omega, by first | decide | omega⟩, ⟨by first | decide | omega, by first | decide | omega⟩, ⟨by first | decide | omega, by first | decide | omega⟩, ⟨by first | decide | omega, by first | decide | omega⟩, ⟨by first | decide | omega, by first | decide | omega⟩, ⟨by first | decide | omega, by first | decide | omega⟩, ⟨by first | decide | omega, by first | decide | omega⟩, ⟨by first | decide | omega, by first | decide | omega⟩, ⟨by first | decide | omega, by first | decide | omega⟩, ⟨by first | decide | omega, by first | decide | omega⟩⟩) hS (hw_AWi G0 (by decide)) dX12_back_62 (fun H locs hH vm oq hz hS => ?_)
              have vik := va_at.kept vik (oq _ (hw_ne (hw_RM_2 Rm) G0 (by decide)))
              refine lv_aload_n hx hb dX12_back_65 rfl (lv_at hl 1 rfl) ?_
              refine hw_get hx hb fg_7_11 hK vm rfl dX12_back_66 ?_
              refine lv_iconst (v := 0) hx hb dX12_back_69 (by decide) ?_
              obtain ⟨f19, v20⟩ := hH.a40 (hw_RM_0 Rm)
              refine hw_iald hx hb hK v20 (hw_in (x := 0) (by decide) (by decide)) dX12_back_70 ?_
              refine lv_topi (fun x22 e23 => ?_)
              exact hw_iretM (v := x22) hx hb hr hlocks hQ hS rfl (Or.inr (Or.inr (⟨x22, 0, rfl, hH, vm, vik, ⟨by first | decide | omega, by first | decide | omega⟩, (by first | rfl | trivial | assumption | omega | (intros; first | rfl | assumption | omega | (exfalso; omega))), (by omega)⟩))) dX12_back_71
            · have b24 : y2_14.toInt < 23 := hw_inle c17
              refine lv_aload_n hx hb dX12_back_33 rfl (lv_at hl 1 rfl) ?_
              refine hw_get hx hb fg_7_11 hK vm rfl dX12_back_34 ?_
              refine lv_iload_n hx hb dX12_back_37 rfl (lv_at hl 0 rfl) ?_
              refine lv_aload_n hx hb dX12_back_38 rfl (lv_at hl 1 rfl) ?_
              refine hw_get hx hb fg_7_11 hK vm rfl dX12_back_39 ?_
              refine lv_sipush (v := 207) hx hb dX12_back_42 (by decide) ?_
              refine lv_bipush (v := 23) hx hb dX12_back_45 (by decide) ?_
              refine lv_iload_n hx hb dX12_back_47 rfl (lv_at hl 2 rfl) ?_
              refine lv_imul hx hb dX12_back_48 ?_
              refine lv_topi (fun x25 e26 => ?_)
              have t27 : x25.toInt = 23 * p1.toInt := by rw [e26]; exact hw_mul rfl rfl (by omega) (by omega)
              refine lv_iadd hx hb dX12_back_49 ?_
              refine lv_topi (fun x28 e29 => ?_)
              have t30 : x28.toInt = 207 + x25.toInt := by rw [e29]; exact hw_add rfl rfl (by omega) (by omega)
              refine lv_iload_n hx hb dX12_back_50 rfl (lv_at hl 0 rfl) ?_
              refine lv_iadd hx hb dX12_back_51 ?_
              refine lv_topi (fun x31 e32 => ?_)
              have t33 : x31.toInt = x28.toInt + y2_14.toInt := by rw [e32]; exact hw_add rfl rfl (by omega) (by omega)
              obtain ⟨f34, v35⟩ := hH.a40 (hw_RM_0 Rm)
              refine hw_iald hx hb hK v35 (hw_in (by omega) (by omega)) dX12_back_52 ?_
              refine lv_topi (fun x37 e38 => ?_)
              obtain ⟨f39, v40⟩ := hH.a40 (hw_RM_0 Rm)
              refine hw_iast hx hb hK hH v40 (hw_in (by omega) (by omega)) (fun _ => by rw [(hw_RM_0 Rm)]; exact ⟨_, rfl⟩) hS (hw_AWi (hw_RM_0 Rm) (by decide)) dX12_back_53 (fun H locs hH v40 oq hz hS => ?_)
              have vm := va_at.kept vm (oq _ (hw_ne G0 (hw_RM_0 Rm) (by decide)))
              have vik := va_at.kept vik (oq _ (hw_ne (hw_RM_2 Rm) (hw_RM_0 Rm) (by decide)))
              obtain ⟨x42, e43⟩ : ∃ y : Int32, y = y2_14 + 1 := ⟨_, rfl⟩
              refine lv_iinc (v := x42) (lv' := [(2, .int x42), (0, .ref h0), (1, .int p1)]) hx hb dX12_back_54 hl (k := 0) rfl (by rw [e43]; rfl) (by decide) rfl (fun ls hl => ?_)
              have t44 : x42.toInt = y2_14.toInt + 1 := by rw [e43]; exact hw_add rfl rfl (by omega) (by omega)
              refine lv_goto (tgt := 27) hx hb dX12_back_57 (by decide) ?_
              exact ih27 x42 (by first | omega | omega) ⟨by first | decide | omega, by first | decide | omega⟩ _ _ hH vm vik hS _ (lv_sub hl [0, 1, 2] rfl)
        exact L27 _ 0 (Nat.lt_succ_self _) ⟨by first | decide | omega, by first | decide | omega⟩ _ _ hH vm vik hS _ (lv_sub hl [0, 1, 2] rfl)
      · have b45 : x10.toInt = 0 := hw_ieq c12
        refine lv_bipush (v := (-4)) hx hb dX12_back_22 (by decide) ?_
        exact hw_iretM (v := (-4)) hx hb hr hlocks hQ hS rfl (Or.inr (Or.inl ⟨ud_m, rfl, hH, vm, vik, ⟨by first | decide | omega, by first | decide | omega⟩, (by first | rfl | trivial | assumption | omega | (intros; first | rfl | assumption | omega | (exfalso; omega)))⟩)) dX12_back_24
    · exact absurd c9 (by decide)
  · refine lv_if_ne (tgt := 13) hx hb dX12_back_7 (by decide) (fun c46 => ?_) (fun c46 => ?_)
    · exact absurd c46 (by decide)
    · refine lv_bipush (v := (-2)) hx hb dX12_back_10 (by decide) ?_
      exact hw_iretM (v := (-2)) hx hb hr hlocks hQ hS rfl (Or.inl ⟨ud_m, rfl, hH, vm, vik, ⟨by first | decide | omega, by first | decide | omega⟩, (by first | rfl | trivial | assumption | omega | (intros; first | rfl | assumption | omega | (exfalso; omega)))⟩) dX12_back_12

set_option maxHeartbeats 4000000 in
set_option maxRecDepth 100000 in
theorem k_X12_belongings (l : Launch) (D : hw_D) (G : Nat → Nat) (h0 : Nat) (p1 : Int32) (sz : Nat) (G0 : G h0 = 9) (h1x : 0 ≤ p1.toInt ∧ p1.toInt < 7) : Met l yX12_belongings wsX12_belongings ({ frames := 5, cells := 0, slots := 0, locals := 114 } : Room) (hw_PC D G [.ref h0, .int p1] sz (fun H => True)) (hw_QR (fun v => ∃ (r : Int32), v = .int r)) 0 0 (fun _ => False) := by
  refine hw_met (cc := cX12_belongings) (maxL := 4) (ret := (some .int)) (plainFor_of_name (by decide)) rfl (Nat.le_of_ble_eq_true rfl) ?_
  intro p e s m args below meth c QQ ls hsz hx hb hml hr hts hown hlocks hnm hH hK hST hF hQ hl
  subst hsz
  have hS : va_S (hw_AW G [] s.heap.size) s.heap s.heap [] := va_S.rf
  have hl : lv_has ls 4 [(0, .ref h0), (1, .int p1)] := hl
  have u_11 : ∀ w ∈ u_ws RX12 TX12 45, w.before args s = true := fun w hw => hts w ((by decide +kernel : ∀ w ∈ u_ws RX12 TX12 45, w ∈ wsX12_belongings) w hw)
  have fg_145_11 : hw_FG s args m 145 11 7 := ⟨RX12, "WardWalkersModel", RX12, TX12, 45, u_11, hown, rfl, by decide, (hts (.fieldLink RX12 145 "WardWalkersModel" "locks" "I") (by decide +kernel)), (fun _ h9 => h9)⟩
  refine lv_iconst (v := 0) hx hb dX12_belongings_0 (by decide) ?_
  refine lv_istore_n (lv' := [(2, .int 0), (0, .ref h0), (1, .int p1)]) hx hb dX12_belongings_1 rfl hl (by decide) rfl (fun ls hl => ?_)
  refine lv_iconst (v := 0) hx hb dX12_belongings_2 (by decide) ?_
  refine lv_istore_n (lv' := [(3, .int 0), (2, .int 0), (0, .ref h0), (1, .int p1)]) hx hb dX12_belongings_3 rfl hl (by decide) rfl (fun ls hl => ?_)
  have L4 : ∀ (n4 : Nat) (y3_1 : Int32) (y2_2 : Int32) (hm : (7 - y3_1.toInt).toNat < n4) (g3 : 0 ≤ y3_1.toInt ∧ y3_1.toInt ≤ 7) (ls : Array Slot) (hl : lv_has ls 4 [(3, .int y3_1), (2, .int y2_2), (0, .ref h0), (1, .int p1)]), W p l e ({ frames := 5, cells := 0, slots := 0, locals := 114 } : Room) s m args below meth c s.heap [] 0 0 QQ (F0 m 4 ls []) := by
    intro n4
    induction n4 with
    | zero => intro y3_1 y2_2 hm; exact absurd hm (Nat.not_lt_zero _)
    | succ n4 ih4 =>
      intro y3_1 y2_2 hm g3 ls hl
      refine lv_iload_n hx hb dX12_belongings_4 rfl (lv_at hl 0 rfl) ?_
      refine lv_aload_n hx hb dX12_belongings_5 rfl (lv_at hl 2 rfl) ?_
      obtain ⟨r5, ud_6, ky_7, lo_8, wk_9, dk_10, ln_11, sm_12, fi_13, be_14, rk_15, rl_16, rw_17, cl_18, dg_19, v20, R21, g22, g23, g24, g25, g26, g27, g28, g29, g30, g31, g32, g33⟩ := hH.oM G0
      refine hw_get hx hb fg_145_11 hK v20 rfl dX12_belongings_6 ?_
      refine lv_icmp_ge (tgt := 37) hx hb dX12_belongings_9 (by decide) (fun c34 => ?_) (fun c34 => ?_)
      · have b35 : lo_8.toInt ≤ y3_1.toInt := hw_ile c34
        refine lv_iload_n hx hb dX12_belongings_37 rfl (lv_at hl 1 rfl) ?_
        exact hw_iretR (v := y2_2) hx hb hr hlocks hQ rfl (⟨y2_2, rfl⟩) dX12_belongings_38
      · have b36 : y3_1.toInt < lo_8.toInt := hw_inle c34
        refine lv_iload_n hx hb dX12_belongings_12 rfl (lv_at hl 1 rfl) ?_
        refine lv_aload_n hx hb dX12_belongings_13 rfl (lv_at hl 2 rfl) ?_
        refine lv_iload_n hx hb dX12_belongings_14 rfl (lv_at hl 3 rfl) ?_
        refine lv_iload_n hx hb dX12_belongings_15 rfl (lv_at hl 0 rfl) ?_
        refine hw_cR (va_runV (As := [.int p1, .int y3_1]) (rest := [.int y2_2]) ⟨hx, hb, hml, hown, hts⟩ (k_X12_doesGo l D G h0 p1 y3_1 _ G0 (by first | assumption | decide | omega) (by first | assumption | decide | omega)) (cwV 2 hts gX12_belongings_X12_doesGo rfl rfl rfl (by decide +kernel) ⟨Nat.le_of_ble_eq_true rfl, Nat.le_of_ble_eq_true rfl⟩) (hw_pV (hw_rc (q := (RX12, TX12, 45)) hK v20 rfl) hH hK hST hS (by decide) (fun _ h => Or.inl h) trivial) rfl rfl hl.1 rfl (lv_room (Nat.le_of_ble_eq_true rfl)) dX12_belongings_16 ⟨Nat.le_of_ble_eq_true rfl, Nat.le_of_ble_eq_true rfl⟩) (fun v hp => ?_)
        rcases hp with rfl | rfl
        · refine lv_if_eq (tgt := 28) hx hb dX12_belongings_19 (by decide) (fun c37 => ?_) (fun c37 => ?_)
          · exact absurd c37 (by decide)
          · refine lv_iconst (v := 1) hx hb dX12_belongings_22 (by decide) ?_
            refine lv_iload_n hx hb dX12_belongings_23 rfl (lv_at hl 0 rfl) ?_
            refine lv_ishl hx hb dX12_belongings_24 ?_
            refine lv_topi (fun x38 e39 => ?_)
            have t40 : 1 ≤ x38.toInt ∧ x38.toInt ≤ 64 := by rw [e39]; exact hw_sh1b 6 (by decide) (by first | decide | omega) (by first | decide | omega)
            refine lv_goto (tgt := 29) hx hb dX12_belongings_25 (by decide) ?_
            refine lv_ior hx hb dX12_belongings_29 ?_
            refine lv_topi (fun x41 e42 => ?_)
            refine lv_istore_n (lv' := [(2, .int x41), (3, .int y3_1), (0, .ref h0), (1, .int p1)]) hx hb dX12_belongings_30 rfl hl (by decide) rfl (fun ls hl => ?_)
            obtain ⟨x43, e44⟩ : ∃ y : Int32, y = y3_1 + 1 := ⟨_, rfl⟩
            refine lv_iinc (v := x43) (lv' := [(3, .int x43), (2, .int x41), (0, .ref h0), (1, .int p1)]) hx hb dX12_belongings_31 hl (k := 1) rfl (by rw [e44]; rfl) (by decide) rfl (fun ls hl => ?_)
            have t45 : x43.toInt = y3_1.toInt + 1 := by rw [e44]; exact hw_add rfl rfl (by omega) (by omega)
            refine lv_goto (tgt := 4) hx hb dX12_belongings_34 (by decide) ?_
            exact ih4 x43 x41 (by first | omega | omega) ⟨by first | decide | omega, by first | decide | omega⟩ _ (lv_sub hl [0, 1, 2, 3] rfl)
        · refine lv_if_eq (tgt := 28) hx hb dX12_belongings_19 (by decide) (fun c46 => ?_) (fun c46 => ?_)
          · refine lv_iconst (v := 0) hx hb dX12_belongings_28 (by decide) ?_
            refine lv_ior hx hb dX12_belongings_29 ?_
            refine lv_topi (fun x47 e48 => ?_)
            refine lv_istore_n (lv' := [(2, .int x47), (3, .int y3_1), (0, .ref h0), (1, .int p1)]) hx hb dX12_belongings_30 rfl hl (by decide) rfl (fun ls hl => ?_)
            obtain ⟨x49, e50⟩ : ∃ y : Int32, y = y3_1 + 1 := ⟨_, rfl⟩
            refine lv_iinc (v := x49) (lv' := [(3, .int x49), (2, .int x47), (0, .ref h0), (1, .int p1)]) hx hb dX12_belongings_31 hl (k := 1) rfl (by rw [e50]; rfl) (by decide) rfl (fun ls hl => ?_)
            have t51 : x49.toInt = y3_1.toInt + 1 := by rw [e50]; exact hw_add rfl rfl (by omega) (by omega)
            refine lv_goto (tgt := 4) hx hb dX12_belongings_34 (by decide) ?_
            exact ih4 x49 x47 (by first | omega | omega) ⟨by first | decide | omega, by first | decide | omega⟩ _ (lv_sub hl [0, 1, 2, 3] rfl)
          · exact absurd c46 (by decide)
  exact L4 _ 0 0 (Nat.lt_succ_self _) ⟨by first | decide | omega, by first | decide | omega⟩ _ (lv_sub hl [0, 1, 2, 3] rfl)

set_option maxHeartbeats 4000000 in
set_option maxRecDepth 100000 in
theorem k_X12_belongs (l : Launch) (D : hw_D) (G : Nat → Nat) (h0 : Nat) (p1 : Int32) (sz : Nat) (rm : Nat → Nat) (ud_m ky_m lo_m wk_m dk_m ln_m sm_m fi_m be_m rk_m rl_m rw_m cl_m dg_m : Int32) (G0 : G h0 = 9) (Rm : hw_RM G rm) (gud_m : 0 ≤ ud_m.toInt ∧ ud_m.toInt ≤ 8) (gky_m : 0 ≤ ky_m.toInt ∧ ky_m.toInt ≤ 7) (glo_m : 0 ≤ lo_m.toInt ∧ lo_m.toInt ≤ 7) (gwk_m : 0 ≤ wk_m.toInt ∧ wk_m.toInt ≤ 3) (gln_m : 0 ≤ ln_m.toInt ∧ ln_m.toInt ≤ 200) (gsm_m : 0 ≤ sm_m.toInt ∧ sm_m.toInt ≤ 6) (gfi_m : 0 ≤ fi_m.toInt ∧ fi_m.toInt ≤ 200) (gbe_m : 0 ≤ be_m.toInt ∧ be_m.toInt ≤ 200) (grk_m : 0 ≤ rk_m.toInt ∧ rk_m.toInt ≤ 7) (grl_m : 0 ≤ rl_m.toInt ∧ rl_m.toInt ≤ 7) (grw_m : 0 ≤ rw_m.toInt ∧ rw_m.toInt ≤ 3) (gdg_m : 0 ≤ dg_m.toInt ∧ dg_m.toInt ≤ 1) : Met l yX12_belongs wsX12_belongs ({ frames := 6, cells := 0, slots := 0, locals := 137 } : Room) (hw_PC D G [.ref h0, .int p1] sz (fun H => va_at D.1 vwCl (h0, .inr (11, hw_LM rm ud_m ky_m lo_m wk_m dk_m ln_m sm_m fi_m be_m rk_m rl_m rw_m cl_m dg_m)) H)) (hw_QR (fun v => ∃ (r : Int32), v = .int r ∧ (ky_m.toInt = 0 → r.toInt = -2))) 0 0 (fun _ => False) := by
  refine hw_met (cc := cX12_belongs) (maxL := 2) (ret := (some .int)) (plainFor_of_name (by decide)) rfl (Nat.le_of_ble_eq_true rfl) ?_
  intro p e s m args below meth c QQ ls hsz hx hb hml hr hts hown hlocks hnm hH hK hST hF hQ hl
  subst hsz
  have hS : va_S (hw_AW G [] s.heap.size) s.heap s.heap [] := va_S.rf
  have vm := hF
  have hl : lv_has ls 2 [(0, .ref h0), (1, .int p1)] := hl
  refine lv_aload_n hx hb dX12_belongs_0 rfl (lv_at hl 0 rfl) ?_
  refine lv_iload_n hx hb dX12_belongs_1 rfl (lv_at hl 1 rfl) ?_
  refine hw_cR (va_runV (As := [.int p1]) (rest := []) ⟨hx, hb, hml, hown, hts⟩ (k_X12_isKey l D G h0 p1 _ rm ud_m ky_m lo_m wk_m dk_m ln_m sm_m fi_m be_m rk_m rl_m rw_m cl_m dg_m G0 Rm ⟨by first | decide | omega, by first | decide | omega⟩ ⟨by first | decide | omega, by first | decide | omega⟩ ⟨by first | decide | omega, by first | decide | omega⟩ ⟨by first | decide | omega, by first | decide | omega⟩ ⟨by first | decide | omega, by first | decide | omega⟩ ⟨by first | decide | omega, by first | decide | omega⟩ ⟨by first | decide | omega, by first | decide | omega⟩ ⟨by first | decide | omega, by first | decide | omega⟩ ⟨by first | decide | omega, by first | decide | omega⟩ ⟨by first | decide | omega, by first | decide | omega⟩ ⟨by first | decide | omega, by first | decide | omega⟩ ⟨by first | decide | omega, by first | decide | omega⟩) (cwV 1 hts gX12_belongs_X12_isKey rfl rfl rfl (by decide +kernel) ⟨Nat.le_of_ble_eq_true rfl, Nat.le_of_ble_eq_true rfl⟩) (hw_pV (hw_rc (q := (RX12, TX12, 45)) hK vm rfl) hH hK hST hS (by decide) (fun _ h => Or.inl h) vm) rfl rfl hl.1 rfl (lv_room (Nat.le_of_ble_eq_true rfl)) dX12_belongs_2 ⟨Nat.le_of_ble_eq_true rfl, Nat.le_of_ble_eq_true rfl⟩) (fun v hp => ?_)
  rcases hp with ⟨rfl, q1⟩ | ⟨rfl, q2⟩
  · refine lv_if_eq (tgt := 16) hx hb dX12_belongs_5 (by decide) (fun c3 => ?_) (fun c3 => ?_)
    · exact absurd c3 (by decide)
    · refine lv_aload_n hx hb dX12_belongs_8 rfl (lv_at hl 0 rfl) ?_
      refine lv_iload_n hx hb dX12_belongs_9 rfl (lv_at hl 1 rfl) ?_
      refine hw_cR (va_runV (As := [.int p1]) (rest := []) ⟨hx, hb, hml, hown, hts⟩ (k_X12_belongings l D G h0 p1 _ G0 (by first | assumption | decide | omega)) (cwV 1 hts gX12_belongs_X12_belongings rfl rfl rfl (by decide +kernel) ⟨Nat.le_of_ble_eq_true rfl, Nat.le_of_ble_eq_true rfl⟩) (hw_pV (hw_rc (q := (RX12, TX12, 45)) hK vm rfl) hH hK hST hS (by decide) (fun _ h => Or.inl h) trivial) rfl rfl hl.1 rfl (lv_room (Nat.le_of_ble_eq_true rfl)) dX12_belongs_10 ⟨Nat.le_of_ble_eq_true rfl, Nat.le_of_ble_eq_true rfl⟩) (fun v hp => ?_)
      obtain ⟨x4, rfl⟩ := hp
      refine lv_goto (tgt := 18) hx hb dX12_belongs_13 (by decide) ?_
      exact hw_iretR (v := x4) hx hb hr hlocks hQ rfl (⟨x4, rfl, (by first | rfl | trivial | assumption | omega | (intros; first | rfl | assumption | omega | (exfalso; omega)))⟩) dX12_belongs_18
  · refine lv_if_eq (tgt := 16) hx hb dX12_belongs_5 (by decide) (fun c5 => ?_) (fun c5 => ?_)
    · refine lv_bipush (v := (-2)) hx hb dX12_belongs_16 (by decide) ?_
      exact hw_iretR (v := (-2)) hx hb hr hlocks hQ rfl (⟨(-2), rfl, (by first | rfl | trivial | assumption | omega | (intros; first | rfl | assumption | omega | (exfalso; omega)))⟩) dX12_belongs_18
    · exact absurd c5 (by decide)

set_option maxHeartbeats 4000000 in
set_option maxRecDepth 100000 in
theorem k_X12_openers (l : Launch) (D : hw_D) (G : Nat → Nat) (h0 : Nat) (p1 : Int32) (sz : Nat) (rm : Nat → Nat) (ud_m ky_m lo_m wk_m dk_m ln_m sm_m fi_m be_m rk_m rl_m rw_m cl_m dg_m : Int32) (G0 : G h0 = 9) (Rm : hw_RM G rm) (gud_m : 0 ≤ ud_m.toInt ∧ ud_m.toInt ≤ 8) (gky_m : 0 ≤ ky_m.toInt ∧ ky_m.toInt ≤ 7) (glo_m : 0 ≤ lo_m.toInt ∧ lo_m.toInt ≤ 7) (gwk_m : 0 ≤ wk_m.toInt ∧ wk_m.toInt ≤ 3) (gln_m : 0 ≤ ln_m.toInt ∧ ln_m.toInt ≤ 200) (gsm_m : 0 ≤ sm_m.toInt ∧ sm_m.toInt ≤ 6) (gfi_m : 0 ≤ fi_m.toInt ∧ fi_m.toInt ≤ 200) (gbe_m : 0 ≤ be_m.toInt ∧ be_m.toInt ≤ 200) (grk_m : 0 ≤ rk_m.toInt ∧ rk_m.toInt ≤ 7) (grl_m : 0 ≤ rl_m.toInt ∧ rl_m.toInt ≤ 7) (grw_m : 0 ≤ rw_m.toInt ∧ rw_m.toInt ≤ 3) (gdg_m : 0 ≤ dg_m.toInt ∧ dg_m.toInt ≤ 1) : Met l yX12_openers wsX12_openers ({ frames := 5, cells := 0, slots := 0, locals := 114 } : Room) (hw_PC D G [.ref h0, .int p1] sz (fun H => va_at D.1 vwCl (h0, .inr (11, hw_LM rm ud_m ky_m lo_m wk_m dk_m ln_m sm_m fi_m be_m rk_m rl_m rw_m cl_m dg_m)) H)) (hw_QR (fun v => ∃ (r : Int32), v = .int r ∧ (lo_m.toInt = 0 → r.toInt = -2))) 0 0 (fun _ => False) := by
  refine hw_met (cc := cX12_openers) (maxL := 4) (ret := (some .int)) (plainFor_of_name (by decide)) rfl (Nat.le_of_ble_eq_true rfl) ?_
  intro p e s m args below meth c QQ ls hsz hx hb hml hr hts hown hlocks hnm hH hK hST hF hQ hl
  subst hsz
  have hS : va_S (hw_AW G [] s.heap.size) s.heap s.heap [] := va_S.rf
  have vm := hF
  have hl : lv_has ls 4 [(0, .ref h0), (1, .int p1)] := hl
  have u_11 : ∀ w ∈ u_ws RX12 TX12 45, w.before args s = true := fun w hw => hts w ((by decide +kernel : ∀ w ∈ u_ws RX12 TX12 45, w ∈ wsX12_openers) w hw)
  have fg_142_11 : hw_FG s args m 142 11 3 := ⟨RX12, "WardWalkersModel", RX12, TX12, 45, u_11, hown, rfl, by decide, (hts (.fieldLink RX12 142 "WardWalkersModel" "keys" "I") (by decide +kernel)), (fun _ h9 => h9)⟩
  refine lv_aload_n hx hb dX12_openers_0 rfl (lv_at hl 0 rfl) ?_
  refine lv_iload_n hx hb dX12_openers_1 rfl (lv_at hl 1 rfl) ?_
  refine hw_cR (va_runV (As := [.int p1]) (rest := []) ⟨hx, hb, hml, hown, hts⟩ (k_X12_isLock l D G h0 p1 _ rm ud_m ky_m lo_m wk_m dk_m ln_m sm_m fi_m be_m rk_m rl_m rw_m cl_m dg_m G0 Rm ⟨by first | decide | omega, by first | decide | omega⟩ ⟨by first | decide | omega, by first | decide | omega⟩ ⟨by first | decide | omega, by first | decide | omega⟩ ⟨by first | decide | omega, by first | decide | omega⟩ ⟨by first | decide | omega, by first | decide | omega⟩ ⟨by first | decide | omega, by first | decide | omega⟩ ⟨by first | decide | omega, by first | decide | omega⟩ ⟨by first | decide | omega, by first | decide | omega⟩ ⟨by first | decide | omega, by first | decide | omega⟩ ⟨by first | decide | omega, by first | decide | omega⟩ ⟨by first | decide | omega, by first | decide | omega⟩ ⟨by first | decide | omega, by first | decide | omega⟩) (cwV 1 hts gX12_openers_X12_isLock rfl rfl rfl (by decide +kernel) ⟨Nat.le_of_ble_eq_true rfl, Nat.le_of_ble_eq_true rfl⟩) (hw_pV (hw_rc (q := (RX12, TX12, 45)) hK vm rfl) hH hK hST hS (by decide) (fun _ h => Or.inl h) vm) rfl rfl hl.1 rfl (lv_room (Nat.le_of_ble_eq_true rfl)) dX12_openers_2 ⟨Nat.le_of_ble_eq_true rfl, Nat.le_of_ble_eq_true rfl⟩) (fun v hp => ?_)
  rcases hp with ⟨rfl, q1⟩ | ⟨rfl, q2⟩
  · refine lv_if_ne (tgt := 11) hx hb dX12_openers_5 (by decide) (fun c3 => ?_) (fun c3 => ?_)
    · refine lv_iconst (v := 0) hx hb dX12_openers_11 (by decide) ?_
      refine lv_istore_n (lv' := [(2, .int 0), (0, .ref h0), (1, .int p1)]) hx hb dX12_openers_12 rfl hl (by decide) rfl (fun ls hl => ?_)
      refine lv_iconst (v := 0) hx hb dX12_openers_13 (by decide) ?_
      refine lv_istore_n (lv' := [(3, .int 0), (2, .int 0), (0, .ref h0), (1, .int p1)]) hx hb dX12_openers_14 rfl hl (by decide) rfl (fun ls hl => ?_)
      have L15 : ∀ (n7 : Nat) (y3_4 : Int32) (y2_5 : Int32) (hm : (7 - y3_4.toInt).toNat < n7) (g6 : 0 ≤ y3_4.toInt ∧ y3_4.toInt ≤ 7) (ls : Array Slot) (hl : lv_has ls 4 [(3, .int y3_4), (2, .int y2_5), (0, .ref h0), (1, .int p1)]), W p l e ({ frames := 5, cells := 0, slots := 0, locals := 114 } : Room) s m args below meth c s.heap [] 0 0 QQ (F0 m 15 ls []) := by
        intro n7
        induction n7 with
        | zero => intro y3_4 y2_5 hm; exact absurd hm (Nat.not_lt_zero _)
        | succ n7 ih15 =>
          intro y3_4 y2_5 hm g6 ls hl
          refine lv_iload_n hx hb dX12_openers_15 rfl (lv_at hl 0 rfl) ?_
          refine lv_aload_n hx hb dX12_openers_16 rfl (lv_at hl 2 rfl) ?_
          refine hw_get hx hb fg_142_11 hK vm rfl dX12_openers_17 ?_
          refine lv_icmp_ge (tgt := 48) hx hb dX12_openers_20 (by decide) (fun c8 => ?_) (fun c8 => ?_)
          · have b9 : ky_m.toInt ≤ y3_4.toInt := hw_ile c8
            refine lv_iload_n hx hb dX12_openers_48 rfl (lv_at hl 1 rfl) ?_
            exact hw_iretR (v := y2_5) hx hb hr hlocks hQ rfl (⟨y2_5, rfl, (by first | rfl | trivial | assumption | omega | (intros; first | rfl | assumption | omega | (exfalso; omega)))⟩) dX12_openers_49
          · have b10 : y3_4.toInt < ky_m.toInt := hw_inle c8
            refine lv_iload_n hx hb dX12_openers_23 rfl (lv_at hl 1 rfl) ?_
            refine lv_aload_n hx hb dX12_openers_24 rfl (lv_at hl 2 rfl) ?_
            refine lv_iload_n hx hb dX12_openers_25 rfl (lv_at hl 0 rfl) ?_
            refine lv_iload_n hx hb dX12_openers_26 rfl (lv_at hl 3 rfl) ?_
            refine hw_cR (va_runV (As := [.int y3_4, .int p1]) (rest := [.int y2_5]) ⟨hx, hb, hml, hown, hts⟩ (k_X12_doesGo l D G h0 y3_4 p1 _ G0 (by first | assumption | decide | omega) (by first | assumption | decide | omega)) (cwV 2 hts gX12_openers_X12_doesGo rfl rfl rfl (by decide +kernel) ⟨Nat.le_of_ble_eq_true rfl, Nat.le_of_ble_eq_true rfl⟩) (hw_pV (hw_rc (q := (RX12, TX12, 45)) hK vm rfl) hH hK hST hS (by decide) (fun _ h => Or.inl h) trivial) rfl rfl hl.1 rfl (lv_room (Nat.le_of_ble_eq_true rfl)) dX12_openers_27 ⟨Nat.le_of_ble_eq_true rfl, Nat.le_of_ble_eq_true rfl⟩) (fun v hp => ?_)
            rcases hp with rfl | rfl
            · refine lv_if_eq (tgt := 39) hx hb dX12_openers_30 (by decide) (fun c11 => ?_) (fun c11 => ?_)
              · exact absurd c11 (by decide)
              · refine lv_iconst (v := 1) hx hb dX12_openers_33 (by decide) ?_
                refine lv_iload_n hx hb dX12_openers_34 rfl (lv_at hl 0 rfl) ?_
                refine lv_ishl hx hb dX12_openers_35 ?_
                refine lv_topi (fun x12 e13 => ?_)
                have t14 : 1 ≤ x12.toInt ∧ x12.toInt ≤ 64 := by rw [e13]; exact hw_sh1b 6 (by decide) (by first | decide | omega) (by first | decide | omega)
                refine lv_goto (tgt := 40) hx hb dX12_openers_36 (by decide) ?_
                refine lv_ior hx hb dX12_openers_40 ?_
                refine lv_topi (fun x15 e16 => ?_)
                refine lv_istore_n (lv' := [(2, .int x15), (3, .int y3_4), (0, .ref h0), (1, .int p1)]) hx hb dX12_openers_41 rfl hl (by decide) rfl (fun ls hl => ?_)
                obtain ⟨x17, e18⟩ : ∃ y : Int32, y = y3_4 + 1 := ⟨_, rfl⟩
                refine lv_iinc (v := x17) (lv' := [(3, .int x17), (2, .int x15), (0, .ref h0), (1, .int p1)]) hx hb dX12_openers_42 hl (k := 1) rfl (by rw [e18]; rfl) (by decide) rfl (fun ls hl => ?_)
                have t19 : x17.toInt = y3_4.toInt + 1 := by rw [e18]; exact hw_add rfl rfl (by omega) (by omega)
                refine lv_goto (tgt := 15) hx hb dX12_openers_45 (by decide) ?_
                exact ih15 x17 x15 (by first | omega | omega) ⟨by first | decide | omega, by first | decide | omega⟩ _ (lv_sub hl [0, 1, 2, 3] rfl)
            · refine lv_if_eq (tgt := 39) hx hb dX12_openers_30 (by decide) (fun c20 => ?_) (fun c20 => ?_)
              · refine lv_iconst (v := 0) hx hb dX12_openers_39 (by decide) ?_
                refine lv_ior hx hb dX12_openers_40 ?_
                refine lv_topi (fun x21 e22 => ?_)
                refine lv_istore_n (lv' := [(2, .int x21), (3, .int y3_4), (0, .ref h0), (1, .int p1)]) hx hb dX12_openers_41 rfl hl (by decide) rfl (fun ls hl => ?_)
                obtain ⟨x23, e24⟩ : ∃ y : Int32, y = y3_4 + 1 := ⟨_, rfl⟩
                refine lv_iinc (v := x23) (lv' := [(3, .int x23), (2, .int x21), (0, .ref h0), (1, .int p1)]) hx hb dX12_openers_42 hl (k := 1) rfl (by rw [e24]; rfl) (by decide) rfl (fun ls hl => ?_)
                have t25 : x23.toInt = y3_4.toInt + 1 := by rw [e24]; exact hw_add rfl rfl (by omega) (by omega)
                refine lv_goto (tgt := 15) hx hb dX12_openers_45 (by decide) ?_
                exact ih15 x23 x21 (by first | omega | omega) ⟨by first | decide | omega, by first | decide | omega⟩ _ (lv_sub hl [0, 1, 2, 3] rfl)
              · exact absurd c20 (by decide)
      exact L15 _ 0 0 (Nat.lt_succ_self _) ⟨by first | decide | omega, by first | decide | omega⟩ _ (lv_sub hl [0, 1, 2, 3] rfl)
    · exact absurd c3 (by decide)
  · refine lv_if_ne (tgt := 11) hx hb dX12_openers_5 (by decide) (fun c26 => ?_) (fun c26 => ?_)
    · exact absurd c26 (by decide)
    · refine lv_bipush (v := (-2)) hx hb dX12_openers_8 (by decide) ?_
      exact hw_iretR (v := (-2)) hx hb hr hlocks hQ rfl (⟨(-2), rfl, (by first | rfl | trivial | assumption | omega | (intros; first | rfl | assumption | omega | (exfalso; omega)))⟩) dX12_openers_10

set_option maxHeartbeats 4000000 in
set_option maxRecDepth 100000 in
theorem k_X12_twins (l : Launch) (D : hw_D) (G : Nat → Nat) (h0 : Nat) (p1 : Int32) (sz : Nat) (rm : Nat → Nat) (ud_m ky_m lo_m wk_m dk_m ln_m sm_m fi_m be_m rk_m rl_m rw_m cl_m dg_m : Int32) (G0 : G h0 = 9) (Rm : hw_RM G rm) (gud_m : 0 ≤ ud_m.toInt ∧ ud_m.toInt ≤ 8) (gky_m : 0 ≤ ky_m.toInt ∧ ky_m.toInt ≤ 7) (glo_m : 0 ≤ lo_m.toInt ∧ lo_m.toInt ≤ 7) (gwk_m : 0 ≤ wk_m.toInt ∧ wk_m.toInt ≤ 3) (gln_m : 0 ≤ ln_m.toInt ∧ ln_m.toInt ≤ 200) (gsm_m : 0 ≤ sm_m.toInt ∧ sm_m.toInt ≤ 6) (gfi_m : 0 ≤ fi_m.toInt ∧ fi_m.toInt ≤ 200) (gbe_m : 0 ≤ be_m.toInt ∧ be_m.toInt ≤ 200) (grk_m : 0 ≤ rk_m.toInt ∧ rk_m.toInt ≤ 7) (grl_m : 0 ≤ rl_m.toInt ∧ rl_m.toInt ≤ 7) (grw_m : 0 ≤ rw_m.toInt ∧ rw_m.toInt ≤ 3) (gdg_m : 0 ≤ dg_m.toInt ∧ dg_m.toInt ≤ 1) : Met l yX12_twins wsX12_twins ({ frames := 6, cells := 0, slots := 0, locals := 137 } : Room) (hw_PC D G [.ref h0, .int p1] sz (fun H => va_at D.1 vwCl (h0, .inr (11, hw_LM rm ud_m ky_m lo_m wk_m dk_m ln_m sm_m fi_m be_m rk_m rl_m rw_m cl_m dg_m)) H)) (hw_QR (fun v => (v = .int (-3) ∧ (p1.toInt < -1 ∨ 20 < p1.toInt)) ∨ (∃ (r : Int32), v = .int r ∧ (-1 ≤ p1.toInt ∧ p1.toInt ≤ 20) ∧ (ky_m.toInt = 0 → p1.toInt = -1 → r.toInt = 0) ∧ (ky_m.toInt = 0 → p1.toInt ≠ -1 → r.toInt = -1)))) 0 0 (fun _ => False) := by
  refine hw_met (cc := cX12_twins) (maxL := 6) (ret := (some .int)) (plainFor_of_name (by decide)) rfl (Nat.le_of_ble_eq_true rfl) ?_
  intro p e s m args below meth c QQ ls hsz hx hb hml hr hts hown hlocks hnm hH hK hST hF hQ hl
  subst hsz
  have hS : va_S (hw_AW G [] s.heap.size) s.heap s.heap [] := va_S.rf
  have vm := hF
  have hl : lv_has ls 6 [(0, .ref h0), (1, .int p1)] := hl
  have u_11 : ∀ w ∈ u_ws RX12 TX12 45, w.before args s = true := fun w hw => hts w ((by decide +kernel : ∀ w ∈ u_ws RX12 TX12 45, w ∈ wsX12_twins) w hw)
  have fg_142_11 : hw_FG s args m 142 11 3 := ⟨RX12, "WardWalkersModel", RX12, TX12, 45, u_11, hown, rfl, by decide, (hts (.fieldLink RX12 142 "WardWalkersModel" "keys" "I") (by decide +kernel)), (fun _ h9 => h9)⟩
  refine lv_iload_n hx hb dX12_twins_0 rfl (lv_at hl 1 rfl) ?_
  refine lv_i2l hx hb dX12_twins_1 rfl ?_
  refine lv_topl (fun x1 e2 => ?_)
  have t3 : x1.toInt = p1.toInt := by rw [e2]; exact hw_i2l _
  have rg4 := hw_rng p1
  refine lv_ldc2 (v := (-1)) hx hb hown (hts (.constantLong RX12 266 (-1)) (by decide +kernel)) dX12_twins_2 ?_
  refine lv_ldc2 (v := 20) hx hb hown (hts (.constantLong RX12 268 (20)) (by decide +kernel)) dX12_twins_5 ?_
  refine hw_cR (va_runS (As := [.long x1, .long (-1), .long 20]) (rest := []) ⟨hx, hb, hml, hown, hts⟩ (k_X12_in l D G x1 (-1) 20 _) (va_cwS 3 hts gX12_twins_X12_in rfl rfl rfl (by decide +kernel) ⟨Nat.le_of_ble_eq_true rfl, Nat.le_of_ble_eq_true rfl⟩) (hw_pS hH hK hST hS (by decide) (fun _ h => Or.inl h) trivial) rfl rfl hl.1 rfl (lv_room (Nat.le_of_ble_eq_true rfl)) dX12_twins_8 ⟨Nat.le_of_ble_eq_true rfl, Nat.le_of_ble_eq_true rfl⟩) (fun v hp => ?_)
  have l5 : ((-1) : Int64).toInt = (-1) := by decide
  have l6 : (20 : Int64).toInt = 20 := by decide
  rcases hp with ⟨rfl, q7⟩ | ⟨rfl, q8⟩
  · refine lv_if_ne (tgt := 17) hx hb dX12_twins_11 (by decide) (fun c9 => ?_) (fun c9 => ?_)
    · refine lv_iconst (v := 0) hx hb dX12_twins_17 (by decide) ?_
      refine lv_istore_n (lv' := [(2, .int 0), (0, .ref h0), (1, .int p1)]) hx hb dX12_twins_18 rfl hl (by decide) rfl (fun ls hl => ?_)
      refine lv_iconst (v := (-1)) hx hb dX12_twins_19 (by decide) ?_
      refine lv_istore_n (lv' := [(3, .int (-1)), (2, .int 0), (0, .ref h0), (1, .int p1)]) hx hb dX12_twins_20 rfl hl (by decide) rfl (fun ls hl => ?_)
      refine lv_iconst (v := 0) hx hb dX12_twins_21 (by decide) ?_
      refine lv_istore (lv' := [(4, .int 0), (3, .int (-1)), (2, .int 0), (0, .ref h0), (1, .int p1)]) hx hb dX12_twins_22 hl (by decide) rfl (fun ls hl => ?_)
      have L24 : ∀ (n14 : Nat) (y4_10 : Int32) (y3_11 : Int32) (y2_12 : Int32) (hm : (7 - y4_10.toInt).toNat < n14) (g13 : 0 ≤ y4_10.toInt ∧ y4_10.toInt ≤ 7) (inv24_0 : ky_m.toInt = 0 → y2_12.toInt = 0) (inv24_1 : ky_m.toInt = 0 → y3_11.toInt = -1) (ls : Array Slot) (hl : lv_has ls 6 [(4, .int y4_10), (3, .int y3_11), (2, .int y2_12), (0, .ref h0), (1, .int p1)]), W p l e ({ frames := 6, cells := 0, slots := 0, locals := 137 } : Room) s m args below meth c s.heap [] 0 0 QQ (F0 m 24 ls []) := by
        intro n14
        induction n14 with
        | zero => intro y4_10 y3_11 y2_12 hm; exact absurd hm (Nat.not_lt_zero _)
        | succ n14 ih24 =>
          intro y4_10 y3_11 y2_12 hm g13 inv24_0 inv24_1 ls hl
          refine lv_iload hx hb dX12_twins_24 (lv_at hl 0 rfl) ?_
          refine lv_aload_n hx hb dX12_twins_26 rfl (lv_at hl 3 rfl) ?_
          refine hw_get hx hb fg_142_11 hK vm rfl dX12_twins_27 ?_
          refine lv_icmp_ge (tgt := 105) hx hb dX12_twins_30 (by decide) (fun c15 => ?_) (fun c15 => ?_)
          · have b16 : ky_m.toInt ≤ y4_10.toInt := hw_ile c15
            refine lv_iload_n hx hb dX12_twins_105 rfl (lv_at hl 4 rfl) ?_
            refine lv_if_ge (tgt := 113) hx hb dX12_twins_106 (by decide) (fun c17 => ?_) (fun c17 => ?_)
            · have b18 : 0 ≤ p1.toInt := hw_ile c17
              refine lv_iload_n hx hb dX12_twins_113 rfl (lv_at hl 1 rfl) ?_
              exact hw_iretR (v := y3_11) hx hb hr hlocks hQ rfl (Or.inr (⟨y3_11, rfl, (by first | rfl | trivial | assumption | omega | (intros; first | rfl | assumption | omega | (exfalso; omega))), (by first | rfl | trivial | assumption | omega | (intros; first | rfl | assumption | omega | (exfalso; omega))), (by first | rfl | trivial | assumption | omega | (intros; first | rfl | assumption | omega | (exfalso; omega)))⟩)) dX12_twins_114
            · have b19 : p1.toInt < 0 := hw_inle c17
              refine lv_iload_n hx hb dX12_twins_109 rfl (lv_at hl 2 rfl) ?_
              refine lv_goto (tgt := 114) hx hb dX12_twins_110 (by decide) ?_
              exact hw_iretR (v := y2_12) hx hb hr hlocks hQ rfl (Or.inr (⟨y2_12, rfl, (by first | rfl | trivial | assumption | omega | (intros; first | rfl | assumption | omega | (exfalso; omega))), (by first | rfl | trivial | assumption | omega | (intros; first | rfl | assumption | omega | (exfalso; omega))), (by first | rfl | trivial | assumption | omega | (intros; first | rfl | assumption | omega | (exfalso; omega)))⟩)) dX12_twins_114
          · have b20 : y4_10.toInt < ky_m.toInt := hw_inle c15
            refine lv_iload hx hb dX12_twins_33 (lv_at hl 0 rfl) ?_
            refine lv_iconst (v := 1) hx hb dX12_twins_35 (by decide) ?_
            refine lv_iadd hx hb dX12_twins_36 ?_
            refine lv_topi (fun x21 e22 => ?_)
            have t23 : x21.toInt = y4_10.toInt + 1 := by rw [e22]; exact hw_add rfl rfl (by omega) (by omega)
            refine lv_istore (lv' := [(5, .int x21), (4, .int y4_10), (3, .int y3_11), (2, .int y2_12), (0, .ref h0), (1, .int p1)]) hx hb dX12_twins_37 hl (by decide) rfl (fun ls hl => ?_)
            have L39 : ∀ (n28 : Nat) (y5_24 : Int32) (y3_25 : Int32) (y2_26 : Int32) (hm : (7 - y5_24.toInt).toNat < n28) (g27 : 1 ≤ y5_24.toInt ∧ y5_24.toInt ≤ 7) (ls : Array Slot) (hl : lv_has ls 6 [(5, .int y5_24), (4, .int y4_10), (3, .int y3_25), (2, .int y2_26), (0, .ref h0), (1, .int p1)]), W p l e ({ frames := 6, cells := 0, slots := 0, locals := 137 } : Room) s m args below meth c s.heap [] 0 0 QQ (F0 m 39 ls []) := by
              intro n28
              induction n28 with
              | zero => intro y5_24 y3_25 y2_26 hm; exact absurd hm (Nat.not_lt_zero _)
              | succ n28 ih39 =>
                intro y5_24 y3_25 y2_26 hm g27 ls hl
                refine lv_iload hx hb dX12_twins_39 (lv_at hl 0 rfl) ?_
                refine lv_aload_n hx hb dX12_twins_41 rfl (lv_at hl 4 rfl) ?_
                refine hw_get hx hb fg_142_11 hK vm rfl dX12_twins_42 ?_
                refine lv_icmp_ge (tgt := 99) hx hb dX12_twins_45 (by decide) (fun c29 => ?_) (fun c29 => ?_)
                · have b30 : ky_m.toInt ≤ y5_24.toInt := hw_ile c29
                  obtain ⟨x31, e32⟩ : ∃ y : Int32, y = y4_10 + 1 := ⟨_, rfl⟩
                  refine lv_iinc (v := x31) (lv' := [(4, .int x31), (5, .int y5_24), (3, .int y3_25), (2, .int y2_26), (0, .ref h0), (1, .int p1)]) hx hb dX12_twins_99 hl (k := 1) rfl (by rw [e32]; rfl) (by decide) rfl (fun ls hl => ?_)
                  have t33 : x31.toInt = y4_10.toInt + 1 := by rw [e32]; exact hw_add rfl rfl (by omega) (by omega)
                  refine lv_goto (tgt := 24) hx hb dX12_twins_102 (by decide) ?_
                  exact ih24 x31 y3_25 y2_26 (by first | omega | omega) ⟨by first | decide | omega, by first | decide | omega⟩ (by first | assumption | omega | decide | rfl | (intros; first | rfl | assumption | omega)) (by first | assumption | omega | decide | rfl | (intros; first | rfl | assumption | omega)) _ (lv_sub hl [0, 2, 3, 4, 5] rfl)
                · have b34 : y5_24.toInt < ky_m.toInt := hw_inle c29
                  refine lv_aload_n hx hb dX12_twins_48 rfl (lv_at hl 4 rfl) ?_
                  refine lv_iload hx hb dX12_twins_49 (lv_at hl 1 rfl) ?_
                  refine hw_cR (va_runV (As := [.int y4_10]) (rest := []) ⟨hx, hb, hml, hown, hts⟩ (k_X12_belongings l D G h0 y4_10 _ G0 (by first | assumption | decide | omega)) (cwV 1 hts gX12_twins_X12_belongings rfl rfl rfl (by decide +kernel) ⟨Nat.le_of_ble_eq_true rfl, Nat.le_of_ble_eq_true rfl⟩) (hw_pV (hw_rc (q := (RX12, TX12, 45)) hK vm rfl) hH hK hST hS (by decide) (fun _ h => Or.inl h) trivial) rfl rfl hl.1 rfl (lv_room (Nat.le_of_ble_eq_true rfl)) dX12_twins_51 ⟨Nat.le_of_ble_eq_true rfl, Nat.le_of_ble_eq_true rfl⟩) (fun v hp => ?_)
                  obtain ⟨x35, rfl⟩ := hp
                  refine lv_if_eq (tgt := 93) hx hb dX12_twins_54 (by decide) (fun c36 => ?_) (fun c36 => ?_)
                  · have b37 : x35.toInt = 0 := hw_ieq c36
                    obtain ⟨x38, e39⟩ : ∃ y : Int32, y = y5_24 + 1 := ⟨_, rfl⟩
                    refine lv_iinc (v := x38) (lv' := [(5, .int x38), (4, .int y4_10), (3, .int y3_25), (2, .int y2_26), (0, .ref h0), (1, .int p1)]) hx hb dX12_twins_93 hl (k := 0) rfl (by rw [e39]; rfl) (by decide) rfl (fun ls hl => ?_)
                    have t40 : x38.toInt = y5_24.toInt + 1 := by rw [e39]; exact hw_add rfl rfl (by omega) (by omega)
                    refine lv_goto (tgt := 39) hx hb dX12_twins_96 (by decide) ?_
                    exact ih39 x38 y3_25 y2_26 (by first | omega | omega) ⟨by first | decide | omega, by first | decide | omega⟩ _ (lv_sub hl [0, 1, 2, 3, 4, 5] rfl)
                  · have b41 : x35.toInt ≠ 0 := hw_ine c36
                    refine lv_aload_n hx hb dX12_twins_57 rfl (lv_at hl 4 rfl) ?_
                    refine lv_iload hx hb dX12_twins_58 (lv_at hl 1 rfl) ?_
                    refine hw_cR (va_runV (As := [.int y4_10]) (rest := []) ⟨hx, hb, hml, hown, hts⟩ (k_X12_belongings l D G h0 y4_10 _ G0 (by first | assumption | decide | omega)) (cwV 1 hts gX12_twins_X12_belongings rfl rfl rfl (by decide +kernel) ⟨Nat.le_of_ble_eq_true rfl, Nat.le_of_ble_eq_true rfl⟩) (hw_pV (hw_rc (q := (RX12, TX12, 45)) hK vm rfl) hH hK hST hS (by decide) (fun _ h => Or.inl h) trivial) rfl rfl hl.1 rfl (lv_room (Nat.le_of_ble_eq_true rfl)) dX12_twins_60 ⟨Nat.le_of_ble_eq_true rfl, Nat.le_of_ble_eq_true rfl⟩) (fun v hp => ?_)
                    obtain ⟨x42, rfl⟩ := hp
                    refine lv_aload_n hx hb dX12_twins_63 rfl (lv_at hl 4 rfl) ?_
                    refine lv_iload hx hb dX12_twins_64 (lv_at hl 0 rfl) ?_
                    refine hw_cR (va_runV (As := [.int y5_24]) (rest := [.int x42]) ⟨hx, hb, hml, hown, hts⟩ (k_X12_belongings l D G h0 y5_24 _ G0 (by first | assumption | decide | omega)) (cwV 1 hts gX12_twins_X12_belongings rfl rfl rfl (by decide +kernel) ⟨Nat.le_of_ble_eq_true rfl, Nat.le_of_ble_eq_true rfl⟩) (hw_pV (hw_rc (q := (RX12, TX12, 45)) hK vm rfl) hH hK hST hS (by decide) (fun _ h => Or.inl h) trivial) rfl rfl hl.1 rfl (lv_room (Nat.le_of_ble_eq_true rfl)) dX12_twins_66 ⟨Nat.le_of_ble_eq_true rfl, Nat.le_of_ble_eq_true rfl⟩) (fun v hp => ?_)
                    obtain ⟨x43, rfl⟩ := hp
                    refine lv_icmp_ne (tgt := 93) hx hb dX12_twins_69 (by decide) (fun c44 => ?_) (fun c44 => ?_)
                    · have b45 : x42.toInt ≠ x43.toInt := hw_ine c44
                      obtain ⟨x46, e47⟩ : ∃ y : Int32, y = y5_24 + 1 := ⟨_, rfl⟩
                      refine lv_iinc (v := x46) (lv' := [(5, .int x46), (4, .int y4_10), (3, .int y3_25), (2, .int y2_26), (0, .ref h0), (1, .int p1)]) hx hb dX12_twins_93 hl (k := 0) rfl (by rw [e47]; rfl) (by decide) rfl (fun ls hl => ?_)
                      have t48 : x46.toInt = y5_24.toInt + 1 := by rw [e47]; exact hw_add rfl rfl (by omega) (by omega)
                      refine lv_goto (tgt := 39) hx hb dX12_twins_96 (by decide) ?_
                      exact ih39 x46 y3_25 y2_26 (by first | omega | omega) ⟨by first | decide | omega, by first | decide | omega⟩ _ (lv_sub hl [0, 1, 2, 3, 4, 5] rfl)
                    · have b49 : x42.toInt = x43.toInt := hw_ieq c44
                      refine lv_iload_n hx hb dX12_twins_72 rfl (lv_at hl 3 rfl) ?_
                      refine lv_iload_n hx hb dX12_twins_73 rfl (lv_at hl 5 rfl) ?_
                      refine lv_icmp_ne (tgt := 88) hx hb dX12_twins_74 (by decide) (fun c50 => ?_) (fun c50 => ?_)
                      · have b51 : y2_26.toInt ≠ p1.toInt := hw_ine c50
                        refine lv_iload_n hx hb dX12_twins_88 rfl (lv_at hl 2 rfl) ?_
                        refine lv_istore_n (lv' := [(3, .int y3_25), (5, .int y5_24), (4, .int y4_10), (2, .int y2_26), (0, .ref h0), (1, .int p1)]) hx hb dX12_twins_89 rfl hl (by decide) rfl (fun ls hl => ?_)
                        obtain ⟨x52, e53⟩ : ∃ y : Int32, y = y2_26 + 1 := ⟨_, rfl⟩
                        refine lv_iinc (v := x52) (lv' := [(2, .int x52), (3, .int y3_25), (5, .int y5_24), (4, .int y4_10), (0, .ref h0), (1, .int p1)]) hx hb dX12_twins_90 hl (k := 3) rfl (by rw [e53]; rfl) (by decide) rfl (fun ls hl => ?_)
                        obtain ⟨x54, e55⟩ : ∃ y : Int32, y = y5_24 + 1 := ⟨_, rfl⟩
                        refine lv_iinc (v := x54) (lv' := [(5, .int x54), (2, .int x52), (3, .int y3_25), (4, .int y4_10), (0, .ref h0), (1, .int p1)]) hx hb dX12_twins_93 hl (k := 2) rfl (by rw [e55]; rfl) (by decide) rfl (fun ls hl => ?_)
                        have t56 : x54.toInt = y5_24.toInt + 1 := by rw [e55]; exact hw_add rfl rfl (by omega) (by omega)
                        refine lv_goto (tgt := 39) hx hb dX12_twins_96 (by decide) ?_
                        exact ih39 x54 y3_25 x52 (by first | omega | omega) ⟨by first | decide | omega, by first | decide | omega⟩ _ (lv_sub hl [0, 3, 2, 1, 4, 5] rfl)
                      · have b57 : y2_26.toInt = p1.toInt := hw_ieq c50
                        refine lv_bipush (v := 10) hx hb dX12_twins_77 (by decide) ?_
                        refine lv_iload hx hb dX12_twins_79 (lv_at hl 1 rfl) ?_
                        refine lv_imul hx hb dX12_twins_81 ?_
                        refine lv_topi (fun x58 e59 => ?_)
                        have t60 : x58.toInt = 10 * y4_10.toInt := by rw [e59]; exact hw_mul rfl rfl (by omega) (by omega)
                        refine lv_iload hx hb dX12_twins_82 (lv_at hl 0 rfl) ?_
                        refine lv_iadd hx hb dX12_twins_84 ?_
                        refine lv_topi (fun x61 e62 => ?_)
                        have t63 : x61.toInt = x58.toInt + y5_24.toInt := by rw [e62]; exact hw_add rfl rfl (by omega) (by omega)
                        refine lv_goto (tgt := 89) hx hb dX12_twins_85 (by decide) ?_
                        refine lv_istore_n (lv' := [(3, .int x61), (5, .int y5_24), (4, .int y4_10), (2, .int y2_26), (0, .ref h0), (1, .int p1)]) hx hb dX12_twins_89 rfl hl (by decide) rfl (fun ls hl => ?_)
                        obtain ⟨x64, e65⟩ : ∃ y : Int32, y = y2_26 + 1 := ⟨_, rfl⟩
                        refine lv_iinc (v := x64) (lv' := [(2, .int x64), (3, .int x61), (5, .int y5_24), (4, .int y4_10), (0, .ref h0), (1, .int p1)]) hx hb dX12_twins_90 hl (k := 3) rfl (by rw [e65]; rfl) (by decide) rfl (fun ls hl => ?_)
                        obtain ⟨x66, e67⟩ : ∃ y : Int32, y = y5_24 + 1 := ⟨_, rfl⟩
                        refine lv_iinc (v := x66) (lv' := [(5, .int x66), (2, .int x64), (3, .int x61), (4, .int y4_10), (0, .ref h0), (1, .int p1)]) hx hb dX12_twins_93 hl (k := 2) rfl (by rw [e67]; rfl) (by decide) rfl (fun ls hl => ?_)
                        have t68 : x66.toInt = y5_24.toInt + 1 := by rw [e67]; exact hw_add rfl rfl (by omega) (by omega)
                        refine lv_goto (tgt := 39) hx hb dX12_twins_96 (by decide) ?_
                        exact ih39 x66 x61 x64 (by first | omega | omega) ⟨by first | decide | omega, by first | decide | omega⟩ _ (lv_sub hl [0, 3, 2, 1, 4, 5] rfl)
            exact L39 _ x21 y3_11 y2_12 (Nat.lt_succ_self _) ⟨by first | decide | omega, by first | decide | omega⟩ _ (lv_sub hl [0, 1, 2, 3, 4, 5] rfl)
      exact L24 _ 0 (-1) 0 (Nat.lt_succ_self _) ⟨by first | decide | omega, by first | decide | omega⟩ (by first | assumption | omega | decide | rfl | (intros; first | rfl | assumption | omega)) (by first | assumption | omega | decide | rfl | (intros; first | rfl | assumption | omega)) _ (lv_sub hl [0, 1, 2, 3, 4] rfl)
    · exact absurd c9 (by decide)
  · refine lv_if_ne (tgt := 17) hx hb dX12_twins_11 (by decide) (fun c69 => ?_) (fun c69 => ?_)
    · exact absurd c69 (by decide)
    · refine lv_bipush (v := (-3)) hx hb dX12_twins_14 (by decide) ?_
      exact hw_iretR (v := (-3)) hx hb hr hlocks hQ rfl (Or.inl ⟨rfl, (by first | rfl | trivial | assumption | omega | (intros; first | rfl | assumption | omega | (exfalso; omega)))⟩) dX12_twins_16

set_option maxHeartbeats 4000000 in
set_option maxRecDepth 100000 in
theorem k_X12_mayMatch (l : Launch) (D : hw_D) (G : Nat → Nat) (h0 : Nat) (p1 : Int32) (p2 : Int32) (sz : Nat) (G0 : G h0 = 9) (h1x : 0 ≤ p1.toInt ∧ p1.toInt < 7) (h2x : 0 ≤ p2.toInt ∧ p2.toInt < 7) : Met l yX12_mayMatch wsX12_mayMatch ({ frames := 5, cells := 0, slots := 0, locals := 114 } : Room) (hw_PC D G [.ref h0, .int p1, .int p2] sz (fun H => True)) (hw_QR (fun v => (v = .int 1) ∨ (v = .int 0))) 0 0 (fun _ => False) := by
  refine hw_met (cc := cX12_mayMatch) (maxL := 3) (ret := (some .boolean)) (plainFor_of_name (by decide)) rfl (Nat.le_of_ble_eq_true rfl) ?_
  intro p e s m args below meth c QQ ls hsz hx hb hml hr hts hown hlocks hnm hH hK hST hF hQ hl
  subst hsz
  have hS : va_S (hw_AW G [] s.heap.size) s.heap s.heap [] := va_S.rf
  have hl : lv_has ls 3 [(0, .ref h0), (1, .int p1), (2, .int p2)] := hl
  refine lv_aload_n hx hb dX12_mayMatch_0 rfl (lv_at hl 0 rfl) ?_
  refine lv_iload_n hx hb dX12_mayMatch_1 rfl (lv_at hl 2 rfl) ?_
  obtain ⟨r1, ud_2, ky_3, lo_4, wk_5, dk_6, ln_7, sm_8, fi_9, be_10, rk_11, rl_12, rw_13, cl_14, dg_15, v16, R17, g18, g19, g20, g21, g22, g23, g24, g25, g26, g27, g28, g29⟩ := hH.oM G0
  refine hw_cR (va_runV (As := [.int p2]) (rest := []) ⟨hx, hb, hml, hown, hts⟩ (k_X12_isOpen l D G h0 p2 _ G0) (cwV 1 hts gX12_mayMatch_X12_isOpen rfl rfl rfl (by decide +kernel) ⟨Nat.le_of_ble_eq_true rfl, Nat.le_of_ble_eq_true rfl⟩) (hw_pV (hw_rc (q := (RX12, TX12, 45)) hK v16 rfl) hH hK hST hS (by decide) (fun _ h => Or.inl h) trivial) rfl rfl hl.1 rfl (lv_room (Nat.le_of_ble_eq_true rfl)) dX12_mayMatch_2 ⟨Nat.le_of_ble_eq_true rfl, Nat.le_of_ble_eq_true rfl⟩) (fun v hp => ?_)
  rcases hp with rfl | rfl
  · refine lv_if_ne (tgt := 29) hx hb dX12_mayMatch_5 (by decide) (fun c30 => ?_) (fun c30 => ?_)
    · refine lv_iconst (v := 0) hx hb dX12_mayMatch_29 (by decide) ?_
      exact hw_iretR (v := 0) hx hb hr hlocks hQ rfl (Or.inr (rfl)) dX12_mayMatch_30
    · exact absurd c30 (by decide)
  · refine lv_if_ne (tgt := 29) hx hb dX12_mayMatch_5 (by decide) (fun c31 => ?_) (fun c31 => ?_)
    · exact absurd c31 (by decide)
    · refine lv_aload_n hx hb dX12_mayMatch_8 rfl (lv_at hl 0 rfl) ?_
      refine lv_iload_n hx hb dX12_mayMatch_9 rfl (lv_at hl 1 rfl) ?_
      refine hw_cR (va_runV (As := [.int p1]) (rest := []) ⟨hx, hb, hml, hown, hts⟩ (k_X12_isBroken l D G h0 p1 _ G0 (by first | assumption | decide | omega)) (cwV 1 hts gX12_mayMatch_X12_isBroken rfl rfl rfl (by decide +kernel) ⟨Nat.le_of_ble_eq_true rfl, Nat.le_of_ble_eq_true rfl⟩) (hw_pV (hw_rc (q := (RX12, TX12, 45)) hK v16 rfl) hH hK hST hS (by decide) (fun _ h => Or.inl h) trivial) rfl rfl hl.1 rfl (lv_room (Nat.le_of_ble_eq_true rfl)) dX12_mayMatch_10 ⟨Nat.le_of_ble_eq_true rfl, Nat.le_of_ble_eq_true rfl⟩) (fun v hp => ?_)
      rcases hp with rfl | rfl
      · refine lv_if_ne (tgt := 29) hx hb dX12_mayMatch_13 (by decide) (fun c32 => ?_) (fun c32 => ?_)
        · refine lv_iconst (v := 0) hx hb dX12_mayMatch_29 (by decide) ?_
          exact hw_iretR (v := 0) hx hb hr hlocks hQ rfl (Or.inr (rfl)) dX12_mayMatch_30
        · exact absurd c32 (by decide)
      · refine lv_if_ne (tgt := 29) hx hb dX12_mayMatch_13 (by decide) (fun c33 => ?_) (fun c33 => ?_)
        · exact absurd c33 (by decide)
        · refine lv_aload_n hx hb dX12_mayMatch_16 rfl (lv_at hl 0 rfl) ?_
          refine lv_iload_n hx hb dX12_mayMatch_17 rfl (lv_at hl 1 rfl) ?_
          refine lv_iload_n hx hb dX12_mayMatch_18 rfl (lv_at hl 2 rfl) ?_
          refine hw_cR (va_runV (As := [.int p1, .int p2]) (rest := []) ⟨hx, hb, hml, hown, hts⟩ (k_X12_doesGo l D G h0 p1 p2 _ G0 (by first | assumption | decide | omega) (by first | assumption | decide | omega)) (cwV 2 hts gX12_mayMatch_X12_doesGo rfl rfl rfl (by decide +kernel) ⟨Nat.le_of_ble_eq_true rfl, Nat.le_of_ble_eq_true rfl⟩) (hw_pV (hw_rc (q := (RX12, TX12, 45)) hK v16 rfl) hH hK hST hS (by decide) (fun _ h => Or.inl h) trivial) rfl rfl hl.1 rfl (lv_room (Nat.le_of_ble_eq_true rfl)) dX12_mayMatch_19 ⟨Nat.le_of_ble_eq_true rfl, Nat.le_of_ble_eq_true rfl⟩) (fun v hp => ?_)
          rcases hp with rfl | rfl
          · refine lv_if_eq (tgt := 29) hx hb dX12_mayMatch_22 (by decide) (fun c34 => ?_) (fun c34 => ?_)
            · exact absurd c34 (by decide)
            · refine lv_iconst (v := 1) hx hb dX12_mayMatch_25 (by decide) ?_
              refine lv_goto (tgt := 30) hx hb dX12_mayMatch_26 (by decide) ?_
              exact hw_iretR (v := 1) hx hb hr hlocks hQ rfl (Or.inl rfl) dX12_mayMatch_30
          · refine lv_if_eq (tgt := 29) hx hb dX12_mayMatch_22 (by decide) (fun c35 => ?_) (fun c35 => ?_)
            · refine lv_iconst (v := 0) hx hb dX12_mayMatch_29 (by decide) ?_
              exact hw_iretR (v := 0) hx hb hr hlocks hQ rfl (Or.inr (rfl)) dX12_mayMatch_30
            · exact absurd c35 (by decide)

set_option maxHeartbeats 4000000 in
set_option maxRecDepth 100000 in
theorem k_X12_layMost (l : Launch) (D : hw_D) (G : Nat → Nat) (h0 : Nat) (sz : Nat) (rm : Nat → Nat) (ud_m ky_m lo_m wk_m dk_m ln_m sm_m fi_m be_m rk_m rl_m rw_m cl_m dg_m : Int32) (fmo : Nat → Int32) (G0 : G h0 = 9) (Rm : hw_RM G rm) (gud_m : 0 ≤ ud_m.toInt ∧ ud_m.toInt ≤ 8) (gky_m : 0 ≤ ky_m.toInt ∧ ky_m.toInt ≤ 7) (glo_m : 0 ≤ lo_m.toInt ∧ lo_m.toInt ≤ 7) (gwk_m : 0 ≤ wk_m.toInt ∧ wk_m.toInt ≤ 3) (gln_m : 0 ≤ ln_m.toInt ∧ ln_m.toInt ≤ 200) (gsm_m : 0 ≤ sm_m.toInt ∧ sm_m.toInt ≤ 6) (gfi_m : 0 ≤ fi_m.toInt ∧ fi_m.toInt ≤ 200) (gbe_m : 0 ≤ be_m.toInt ∧ be_m.toInt ≤ 200) (grk_m : 0 ≤ rk_m.toInt ∧ rk_m.toInt ≤ 7) (grl_m : 0 ≤ rl_m.toInt ∧ rl_m.toInt ≤ 7) (grw_m : 0 ≤ rw_m.toInt ∧ rw_m.toInt ≤ 3) (gdg_m : 0 ≤ dg_m.toInt ∧ dg_m.toInt ≤ 1) : Met l yX12_layMost wsX12_layMost ({ frames := 6, cells := 0, slots := 0, locals := 136 } : Room) (hw_PC D G [.ref h0] sz (fun H => va_at D.1 vwCl (h0, .inr (11, hw_LM rm ud_m ky_m lo_m wk_m dk_m ln_m sm_m fi_m be_m rk_m rl_m rw_m cl_m dg_m)) H ∧ va_at D.1 vwCl ((rm 36), .inl (D.2.1 0, 1024, .inl fmo)) H)) (hw_QM (fun v H => ∃ (fmo2 : Nat → Int32), v = none ∧ hw_HT D G H ∧ va_at D.1 vwCl (h0, .inr (11, hw_LM rm ud_m ky_m lo_m wk_m dk_m ln_m sm_m fi_m be_m rk_m rl_m rw_m cl_m dg_m)) H ∧ va_at D.1 vwCl ((rm 36), .inl (D.2.1 0, 1024, .inl fmo2)) H ∧ (lo_m.toInt = 0 → fmo2 0 = 0)) (hw_AW G [76] sz)) 0 0 (hw_AW G [76] sz) := by
  refine hw_met (cc := cX12_layMost) (maxL := 6) (ret := none) (plainFor_of_name (by decide)) rfl (Nat.le_of_ble_eq_true rfl) ?_
  intro p e s m args below meth c QQ ls hsz hx hb hml hr hts hown hlocks hnm hH hK hST hF hQ hl
  subst hsz
  have hS : va_S (hw_AW G [76] s.heap.size) s.heap s.heap [] := va_S.rf
  obtain ⟨vm, vmo⟩ := hF
  have hl : lv_has ls 6 [(0, .ref h0)] := hl
  have u_11 : ∀ w ∈ u_ws RX12 TX12 45, w.before args s = true := fun w hw => hts w ((by decide +kernel : ∀ w ∈ u_ws RX12 TX12 45, w ∈ wsX12_layMost) w hw)
  have fg_145_11 : hw_FG s args m 145 11 7 := ⟨RX12, "WardWalkersModel", RX12, TX12, 45, u_11, hown, rfl, by decide, (hts (.fieldLink RX12 145 "WardWalkersModel" "locks" "I") (by decide +kernel)), (fun _ h9 => h9)⟩
  have fg_81_11 : hw_FG s args m 81 11 36 := ⟨RX12, "WardWalkersModel", RX12, TX12, 45, u_11, hown, rfl, by decide, (hts (.fieldLink RX12 81 "WardWalkersModel" "most" "[I") (by decide +kernel)), (fun _ h9 => h9)⟩
  have fg_142_11 : hw_FG s args m 142 11 3 := ⟨RX12, "WardWalkersModel", RX12, TX12, 45, u_11, hown, rfl, by decide, (hts (.fieldLink RX12 142 "WardWalkersModel" "keys" "I") (by decide +kernel)), (fun _ h9 => h9)⟩
  refine lv_iconst (v := 0) hx hb dX12_layMost_0 (by decide) ?_
  refine lv_istore_n (lv' := [(1, .int 0), (0, .ref h0)]) hx hb dX12_layMost_1 rfl hl (by decide) rfl (fun ls hl => ?_)
  have L2 : ∀ (n4 : Nat) (y1_1 : Int32) (f2 : Nat → Int32) (hm : (128 - y1_1.toInt).toNat < n4) (g3 : 0 ≤ y1_1.toInt ∧ y1_1.toInt ≤ 128) (inv2_0 : lo_m.toInt = 0 → 0 < y1_1.toInt → f2 0 = 0) (H : Heap) (locs : List Loc) (hH : hw_HT D G H) (vm : va_at D.1 vwCl (h0, .inr (11, hw_LM rm ud_m ky_m lo_m wk_m dk_m ln_m sm_m fi_m be_m rk_m rl_m rw_m cl_m dg_m)) H) (vmo : va_at D.1 vwCl ((rm 36), .inl (D.2.1 0, 1024, .inl f2)) H) (hS : va_S (hw_AW G [76] s.heap.size) s.heap H locs) (ls : Array Slot) (hl : lv_has ls 6 [(1, .int y1_1), (0, .ref h0)]), W p l e ({ frames := 6, cells := 0, slots := 0, locals := 136 } : Room) s m args below meth c H locs 0 0 QQ (F0 m 2 ls []) := by
    intro n4
    induction n4 with
    | zero => intro y1_1 f2 hm; exact absurd hm (Nat.not_lt_zero _)
    | succ n4 ih2 =>
      intro y1_1 f2 hm g3 inv2_0 H locs hH vm vmo hS ls hl
      refine lv_iload_n hx hb dX12_layMost_2 rfl (lv_at hl 0 rfl) ?_
      refine lv_sipush (v := 128) hx hb dX12_layMost_3 (by decide) ?_
      refine lv_icmp_ge (tgt := 31) hx hb dX12_layMost_6 (by decide) (fun c5 => ?_) (fun c5 => ?_)
      · have b6 : 128 ≤ y1_1.toInt := hw_ile c5
        refine lv_aload_n hx hb dX12_layMost_31 rfl (lv_at hl 1 rfl) ?_
        refine hw_get hx hb fg_145_11 hK vm rfl dX12_layMost_32 ?_
        refine lv_iconst (v := 1) hx hb dX12_layMost_35 (by decide) ?_
        refine lv_isub hx hb dX12_layMost_36 ?_
        refine lv_topi (fun x7 e8 => ?_)
        have t9 : x7.toInt = lo_m.toInt - 1 := by rw [e8]; exact hw_sub rfl rfl (by omega) (by omega)
        refine lv_istore_n (lv' := [(1, .int x7), (0, .ref h0)]) hx hb dX12_layMost_37 rfl hl (by decide) rfl (fun ls hl => ?_)
        have L38 : ∀ (n13 : Nat) (y1_10 : Int32) (f11 : Nat → Int32) (hm : (y1_10.toInt + 1).toNat < n13) (g12 : (-1) ≤ y1_10.toInt ∧ y1_10.toInt ≤ 6) (inv38_0 : lo_m.toInt = 0 → f11 0 = 0) (inv38_1 : y1_10.toInt < lo_m.toInt) (H : Heap) (locs : List Loc) (hH : hw_HT D G H) (vm : va_at D.1 vwCl (h0, .inr (11, hw_LM rm ud_m ky_m lo_m wk_m dk_m ln_m sm_m fi_m be_m rk_m rl_m rw_m cl_m dg_m)) H) (vmo : va_at D.1 vwCl ((rm 36), .inl (D.2.1 0, 1024, .inl f11)) H) (hS : va_S (hw_AW G [76] s.heap.size) s.heap H locs) (ls : Array Slot) (hl : lv_has ls 6 [(1, .int y1_10), (0, .ref h0)]), W p l e ({ frames := 6, cells := 0, slots := 0, locals := 136 } : Room) s m args below meth c H locs 0 0 QQ (F0 m 38 ls []) := by
          intro n13
          induction n13 with
          | zero => intro y1_10 f11 hm; exact absurd hm (Nat.not_lt_zero _)
          | succ n13 ih38 =>
            intro y1_10 f11 hm g12 inv38_0 inv38_1 H locs hH vm vmo hS ls hl
            refine lv_iload_n hx hb dX12_layMost_38 rfl (lv_at hl 0 rfl) ?_
            refine lv_if_lt (tgt := 168) hx hb dX12_layMost_39 (by decide) (fun c14 => ?_) (fun c14 => ?_)
            · have b15 : y1_10.toInt < 0 := hw_ilt c14
              exact hw_vretM hx hb hr hlocks hQ hS (⟨f11, rfl, hH, vm, vmo, (by exact inv38_0)⟩) dX12_layMost_168
            · have b16 : 0 ≤ y1_10.toInt := hw_inlt c14
              refine lv_iconst (v := 0) hx hb dX12_layMost_42 (by decide) ?_
              refine lv_istore_n (lv' := [(2, .int 0), (1, .int y1_10), (0, .ref h0)]) hx hb dX12_layMost_43 rfl hl (by decide) rfl (fun ls hl => ?_)
              have L44 : ∀ (n20 : Nat) (y2_17 : Int32) (f18 : Nat → Int32) (hm : (128 - y2_17.toInt).toNat < n20) (g19 : 0 ≤ y2_17.toInt ∧ y2_17.toInt ≤ 128) (H : Heap) (locs : List Loc) (hH : hw_HT D G H) (vm : va_at D.1 vwCl (h0, .inr (11, hw_LM rm ud_m ky_m lo_m wk_m dk_m ln_m sm_m fi_m be_m rk_m rl_m rw_m cl_m dg_m)) H) (vmo : va_at D.1 vwCl ((rm 36), .inl (D.2.1 0, 1024, .inl f18)) H) (hS : va_S (hw_AW G [76] s.heap.size) s.heap H locs) (ls : Array Slot) (hl : lv_has ls 6 [(2, .int y2_17), (1, .int y1_10), (0, .ref h0)]), W p l e ({ frames := 6, cells := 0, slots := 0, locals := 136 } : Room) s m args below meth c H locs 0 0 QQ (F0 m 44 ls []) := by
                intro n20
                induction n20 with
                | zero => intro y2_17 f18 hm; exact absurd hm (Nat.not_lt_zero _)
                | succ n20 ih44 =>
                  intro y2_17 f18 hm g19 H locs hH vm vmo hS ls hl
                  refine lv_iload_n hx hb dX12_layMost_44 rfl (lv_at hl 0 rfl) ?_
                  refine lv_sipush (v := 128) hx hb dX12_layMost_45 (by decide) ?_
                  refine lv_icmp_ge (tgt := 162) hx hb dX12_layMost_48 (by decide) (fun c21 => ?_) (fun c21 => ?_)
                  · have b22 : 128 ≤ y2_17.toInt := hw_ile c21
                    obtain ⟨x23, e24⟩ : ∃ y : Int32, y = y1_10 + (-1) := ⟨_, rfl⟩
                    refine lv_iinc (v := x23) (lv' := [(1, .int x23), (2, .int y2_17), (0, .ref h0)]) hx hb dX12_layMost_162 hl (k := 1) rfl (by rw [e24]; rfl) (by decide) rfl (fun ls hl => ?_)
                    have t25 : x23.toInt = y1_10.toInt + (-1) := by rw [e24]; exact hw_add rfl rfl (by omega) (by omega)
                    refine lv_goto (tgt := 38) hx hb dX12_layMost_165 (by decide) ?_
                    exact ih38 x23 f18 (by first | omega | omega) ⟨by first | decide | omega, by first | decide | omega⟩ (by first | assumption | omega | decide | rfl | (intros; first | rfl | assumption | omega)) (by first | assumption | omega | decide | rfl | (intros; first | rfl | assumption | omega)) _ _ hH vm vmo hS _ (lv_sub hl [0, 2] rfl)
                  · have b26 : y2_17.toInt < 128 := hw_inle c21
                    refine lv_aload_n hx hb dX12_layMost_51 rfl (lv_at hl 2 rfl) ?_
                    refine hw_get hx hb fg_81_11 hK vm rfl dX12_layMost_52 ?_
                    refine lv_sipush (v := 128) hx hb dX12_layMost_55 (by decide) ?_
                    refine lv_iload_n hx hb dX12_layMost_58 rfl (lv_at hl 1 rfl) ?_
                    refine lv_iconst (v := 1) hx hb dX12_layMost_59 (by decide) ?_
                    refine lv_iadd hx hb dX12_layMost_60 ?_
                    refine lv_topi (fun x27 e28 => ?_)
                    have t29 : x27.toInt = y1_10.toInt + 1 := by rw [e28]; exact hw_add rfl rfl (by omega) (by omega)
                    refine lv_imul hx hb dX12_layMost_61 ?_
                    refine lv_topi (fun x30 e31 => ?_)
                    have t32 : x30.toInt = 128 * x27.toInt := by rw [e31]; exact hw_mul rfl rfl (by omega) (by omega)
                    refine lv_iload_n hx hb dX12_layMost_62 rfl (lv_at hl 0 rfl) ?_
                    refine lv_iadd hx hb dX12_layMost_63 ?_
                    refine lv_topi (fun x33 e34 => ?_)
                    have t35 : x33.toInt = x30.toInt + y2_17.toInt := by rw [e34]; exact hw_add rfl rfl (by omega) (by omega)
                    refine hw_iald hx hb hK vmo (hw_in (by omega) (by omega)) dX12_layMost_64 ?_
                    refine lv_topi (fun x36 e37 => ?_)
                    refine lv_istore_n (lv' := [(3, .int x36), (2, .int y2_17), (1, .int y1_10), (0, .ref h0)]) hx hb dX12_layMost_65 rfl hl (by decide) rfl (fun ls hl => ?_)
                    refine lv_iconst (v := 0) hx hb dX12_layMost_66 (by decide) ?_
                    refine lv_istore (lv' := [(4, .int 0), (3, .int x36), (2, .int y2_17), (1, .int y1_10), (0, .ref h0)]) hx hb dX12_layMost_67 hl (by decide) rfl (fun ls hl => ?_)
                    have L69 : ∀ (n41 : Nat) (y4_38 : Int32) (y3_39 : Int32) (hm : (7 - y4_38.toInt).toNat < n41) (g40 : 0 ≤ y4_38.toInt ∧ y4_38.toInt ≤ 7) (H : Heap) (locs : List Loc) (hH : hw_HT D G H) (vm : va_at D.1 vwCl (h0, .inr (11, hw_LM rm ud_m ky_m lo_m wk_m dk_m ln_m sm_m fi_m be_m rk_m rl_m rw_m cl_m dg_m)) H) (vmo : va_at D.1 vwCl ((rm 36), .inl (D.2.1 0, 1024, .inl f18)) H) (hS : va_S (hw_AW G [76] s.heap.size) s.heap H locs) (ls : Array Slot) (hl : lv_has ls 6 [(4, .int y4_38), (3, .int y3_39), (2, .int y2_17), (1, .int y1_10), (0, .ref h0)]), W p l e ({ frames := 6, cells := 0, slots := 0, locals := 136 } : Room) s m args below meth c H locs 0 0 QQ (F0 m 69 ls []) := by
                      intro n41
                      induction n41 with
                      | zero => intro y4_38 y3_39 hm; exact absurd hm (Nat.not_lt_zero _)
                      | succ n41 ih69 =>
                        intro y4_38 y3_39 hm g40 H locs hH vm vmo hS ls hl
                        refine lv_iload hx hb dX12_layMost_69 (lv_at hl 0 rfl) ?_
                        refine lv_aload_n hx hb dX12_layMost_71 rfl (lv_at hl 4 rfl) ?_
                        refine hw_get hx hb fg_142_11 hK vm rfl dX12_layMost_72 ?_
                        refine lv_icmp_ge (tgt := 143) hx hb dX12_layMost_75 (by decide) (fun c42 => ?_) (fun c42 => ?_)
                        · have b43 : ky_m.toInt ≤ y4_38.toInt := hw_ile c42
                          refine lv_aload_n hx hb dX12_layMost_143 rfl (lv_at hl 4 rfl) ?_
                          refine hw_get hx hb fg_81_11 hK vm rfl dX12_layMost_144 ?_
                          refine lv_sipush (v := 128) hx hb dX12_layMost_147 (by decide) ?_
                          refine lv_iload_n hx hb dX12_layMost_150 rfl (lv_at hl 3 rfl) ?_
                          refine lv_imul hx hb dX12_layMost_151 ?_
                          refine lv_topi (fun x44 e45 => ?_)
                          have t46 : x44.toInt = 128 * y1_10.toInt := by rw [e45]; exact hw_mul rfl rfl (by omega) (by omega)
                          refine lv_iload_n hx hb dX12_layMost_152 rfl (lv_at hl 2 rfl) ?_
                          refine lv_iadd hx hb dX12_layMost_153 ?_
                          refine lv_topi (fun x47 e48 => ?_)
                          have t49 : x47.toInt = x44.toInt + y2_17.toInt := by rw [e48]; exact hw_add rfl rfl (by omega) (by omega)
                          refine lv_iload_n hx hb dX12_layMost_154 rfl (lv_at hl 1 rfl) ?_
                          refine hw_iast hx hb hK hH vmo (hw_in (by omega) (by omega)) (fun _ => by rw [(hw_RM_36 Rm)]; exact ⟨_, rfl⟩) hS (hw_AWi (hw_RM_36 Rm) (by decide)) dX12_layMost_155 (fun H locs hH vmo oq hz hS => ?_)
                          have vm := va_at.kept vm (oq _ (hw_ne G0 (hw_RM_36 Rm) (by decide)))
                          obtain ⟨f50, e51⟩ : ∃ z, z = upd f18 x47.toNatClampNeg y3_39 := ⟨_, rfl⟩
                          rw [← e51] at vmo
                          obtain ⟨x52, e53⟩ : ∃ y : Int32, y = y2_17 + 1 := ⟨_, rfl⟩
                          refine lv_iinc (v := x52) (lv' := [(2, .int x52), (4, .int y4_38), (3, .int y3_39), (1, .int y1_10), (0, .ref h0)]) hx hb dX12_layMost_156 hl (k := 2) rfl (by rw [e53]; rfl) (by decide) rfl (fun ls hl => ?_)
                          have t54 : x52.toInt = y2_17.toInt + 1 := by rw [e53]; exact hw_add rfl rfl (by omega) (by omega)
                          refine lv_goto (tgt := 44) hx hb dX12_layMost_159 (by decide) ?_
                          exact ih44 x52 f50 (by first | omega | omega) ⟨by first | decide | omega, by first | decide | omega⟩ _ _ hH vm vmo hS _ (lv_sub hl [0, 3, 4] rfl)
                        · have b55 : y4_38.toInt < ky_m.toInt := hw_inle c42
                          refine lv_iload_n hx hb dX12_layMost_78 rfl (lv_at hl 2 rfl) ?_
                          refine lv_iload hx hb dX12_layMost_79 (lv_at hl 0 rfl) ?_
                          refine hw_cR (va_runS (As := [.int y2_17, .int y4_38]) (rest := []) ⟨hx, hb, hml, hown, hts⟩ (k_X12_has l D G y2_17 y4_38 _) (va_cwS 2 hts gX12_layMost_X12_has rfl rfl rfl (by decide +kernel) ⟨Nat.le_of_ble_eq_true rfl, Nat.le_of_ble_eq_true rfl⟩) (hw_pS hH hK hST hS (by decide) (fun _ h => Or.inl h) trivial) rfl rfl hl.1 rfl (lv_room (Nat.le_of_ble_eq_true rfl)) dX12_layMost_81 ⟨Nat.le_of_ble_eq_true rfl, Nat.le_of_ble_eq_true rfl⟩) (fun v hp => ?_)
                          rcases hp with rfl | rfl
                          · refine lv_if_ne (tgt := 121) hx hb dX12_layMost_84 (by decide) (fun c56 => ?_) (fun c56 => ?_)
                            · refine lv_iconst (v := 0) hx hb dX12_layMost_121 (by decide) ?_
                              refine lv_istore (lv' := [(5, .int 0), (4, .int y4_38), (3, .int y3_39), (2, .int y2_17), (1, .int y1_10), (0, .ref h0)]) hx hb dX12_layMost_122 hl (by decide) rfl (fun ls hl => ?_)
                              refine lv_iload hx hb dX12_layMost_124 (lv_at hl 0 rfl) ?_
                              refine lv_iload_n hx hb dX12_layMost_126 rfl (lv_at hl 2 rfl) ?_
                              refine lv_icmp_le (tgt := 135) hx hb dX12_layMost_127 (by decide) (fun c57 => ?_) (fun c57 => ?_)
                              · have b58 : 0 ≤ y3_39.toInt := hw_ile c57
                                refine lv_iload_n hx hb dX12_layMost_135 rfl (lv_at hl 2 rfl) ?_
                                refine lv_istore_n (lv' := [(3, .int y3_39), (5, .int 0), (4, .int y4_38), (2, .int y2_17), (1, .int y1_10), (0, .ref h0)]) hx hb dX12_layMost_136 rfl hl (by decide) rfl (fun ls hl => ?_)
                                obtain ⟨x59, e60⟩ : ∃ y : Int32, y = y4_38 + 1 := ⟨_, rfl⟩
                                refine lv_iinc (v := x59) (lv' := [(4, .int x59), (3, .int y3_39), (5, .int 0), (2, .int y2_17), (1, .int y1_10), (0, .ref h0)]) hx hb dX12_layMost_137 hl (k := 2) rfl (by rw [e60]; rfl) (by decide) rfl (fun ls hl => ?_)
                                have t61 : x59.toInt = y4_38.toInt + 1 := by rw [e60]; exact hw_add rfl rfl (by omega) (by omega)
                                refine lv_goto (tgt := 69) hx hb dX12_layMost_140 (by decide) ?_
                                exact ih69 x59 y3_39 (by first | omega | omega) ⟨by first | decide | omega, by first | decide | omega⟩ _ _ hH vm vmo hS _ (lv_sub hl [0, 1, 3, 4, 5] rfl)
                              · have b62 : y3_39.toInt < 0 := hw_inle c57
                                refine lv_iload hx hb dX12_layMost_130 (lv_at hl 0 rfl) ?_
                                refine lv_goto (tgt := 136) hx hb dX12_layMost_132 (by decide) ?_
                                refine lv_istore_n (lv' := [(3, .int 0), (5, .int 0), (4, .int y4_38), (2, .int y2_17), (1, .int y1_10), (0, .ref h0)]) hx hb dX12_layMost_136 rfl hl (by decide) rfl (fun ls hl => ?_)
                                obtain ⟨x63, e64⟩ : ∃ y : Int32, y = y4_38 + 1 := ⟨_, rfl⟩
                                refine lv_iinc (v := x63) (lv' := [(4, .int x63), (3, .int 0), (5, .int 0), (2, .int y2_17), (1, .int y1_10), (0, .ref h0)]) hx hb dX12_layMost_137 hl (k := 2) rfl (by rw [e64]; rfl) (by decide) rfl (fun ls hl => ?_)
                                have t65 : x63.toInt = y4_38.toInt + 1 := by rw [e64]; exact hw_add rfl rfl (by omega) (by omega)
                                refine lv_goto (tgt := 69) hx hb dX12_layMost_140 (by decide) ?_
                                exact ih69 x63 0 (by first | omega | omega) ⟨by first | decide | omega, by first | decide | omega⟩ _ _ hH vm vmo hS _ (lv_sub hl [0, 1, 3, 4, 5] rfl)
                            · exact absurd c56 (by decide)
                          · refine lv_if_ne (tgt := 121) hx hb dX12_layMost_84 (by decide) (fun c66 => ?_) (fun c66 => ?_)
                            · exact absurd c66 (by decide)
                            · refine lv_aload_n hx hb dX12_layMost_87 rfl (lv_at hl 4 rfl) ?_
                              refine lv_iload hx hb dX12_layMost_88 (lv_at hl 0 rfl) ?_
                              refine lv_iload_n hx hb dX12_layMost_90 rfl (lv_at hl 3 rfl) ?_
                              refine hw_cR (va_runV (As := [.int y4_38, .int y1_10]) (rest := []) ⟨hx, hb, hml, hown, hts⟩ (k_X12_mayMatch l D G h0 y4_38 y1_10 _ G0 (by first | assumption | decide | omega) (by first | assumption | decide | omega)) (cwV 2 hts gX12_layMost_X12_mayMatch rfl rfl rfl (by decide +kernel) ⟨Nat.le_of_ble_eq_true rfl, Nat.le_of_ble_eq_true rfl⟩) (hw_pV (hw_rc (q := (RX12, TX12, 45)) hK vm rfl) hH hK hST hS (by decide) (fun _ h => Or.inl h) trivial) rfl rfl hl.1 rfl (lv_room (Nat.le_of_ble_eq_true rfl)) dX12_layMost_91 ⟨Nat.le_of_ble_eq_true rfl, Nat.le_of_ble_eq_true rfl⟩) (fun v hp => ?_)
                              rcases hp with rfl | rfl
                              · refine lv_if_eq (tgt := 121) hx hb dX12_layMost_94 (by decide) (fun c67 => ?_) (fun c67 => ?_)
                                · exact absurd c67 (by decide)
                                · refine lv_iconst (v := 1) hx hb dX12_layMost_97 (by decide) ?_
                                  refine lv_aload_n hx hb dX12_layMost_98 rfl (lv_at hl 4 rfl) ?_
                                  refine hw_get hx hb fg_81_11 hK vm rfl dX12_layMost_99 ?_
                                  refine lv_sipush (v := 128) hx hb dX12_layMost_102 (by decide) ?_
                                  refine lv_iload_n hx hb dX12_layMost_105 rfl (lv_at hl 3 rfl) ?_
                                  refine lv_iconst (v := 1) hx hb dX12_layMost_106 (by decide) ?_
                                  refine lv_iadd hx hb dX12_layMost_107 ?_
                                  refine lv_topi (fun x68 e69 => ?_)
                                  have t70 : x68.toInt = y1_10.toInt + 1 := by rw [e69]; exact hw_add rfl rfl (by omega) (by omega)
                                  refine lv_imul hx hb dX12_layMost_108 ?_
                                  refine lv_topi (fun x71 e72 => ?_)
                                  have t73 : x71.toInt = 128 * x68.toInt := by rw [e72]; exact hw_mul rfl rfl (by omega) (by omega)
                                  refine lv_iload_n hx hb dX12_layMost_109 rfl (lv_at hl 2 rfl) ?_
                                  refine lv_iconst (v := 1) hx hb dX12_layMost_110 (by decide) ?_
                                  refine lv_iload hx hb dX12_layMost_111 (lv_at hl 0 rfl) ?_
                                  refine lv_ishl hx hb dX12_layMost_113 ?_
                                  refine lv_topi (fun x74 e75 => ?_)
                                  have t76 : 1 ≤ x74.toInt ∧ x74.toInt ≤ 64 := by rw [e75]; exact hw_sh1b 6 (by decide) (by first | decide | omega) (by first | decide | omega)
                                  refine lv_ior hx hb dX12_layMost_114 ?_
                                  refine lv_topi (fun x77 e78 => ?_)
                                  have t79 : 0 ≤ x77.toInt ∧ x77.toInt < 128 := by rw [e78]; exact hw_ior (k := 7) (by decide) (by first | decide | omega) (by first | decide | omega) (by first | decide | omega) (by first | decide | omega)
                                  refine lv_iadd hx hb dX12_layMost_115 ?_
                                  refine lv_topi (fun x80 e81 => ?_)
                                  have t82 : x80.toInt = x71.toInt + x77.toInt := by rw [e81]; exact hw_add rfl rfl (by omega) (by omega)
                                  refine hw_iald hx hb hK vmo (hw_in (by omega) (by omega)) dX12_layMost_116 ?_
                                  refine lv_topi (fun x83 e84 => ?_)
                                  refine lv_iadd hx hb dX12_layMost_117 ?_
                                  refine lv_topi (fun x85 e86 => ?_)
                                  refine lv_goto (tgt := 122) hx hb dX12_layMost_118 (by decide) ?_
                                  refine lv_istore (lv' := [(5, .int x85), (4, .int y4_38), (3, .int y3_39), (2, .int y2_17), (1, .int y1_10), (0, .ref h0)]) hx hb dX12_layMost_122 hl (by decide) rfl (fun ls hl => ?_)
                                  refine lv_iload hx hb dX12_layMost_124 (lv_at hl 0 rfl) ?_
                                  refine lv_iload_n hx hb dX12_layMost_126 rfl (lv_at hl 2 rfl) ?_
                                  refine lv_icmp_le (tgt := 135) hx hb dX12_layMost_127 (by decide) (fun c87 => ?_) (fun c87 => ?_)
                                  · have b88 : x85.toInt ≤ y3_39.toInt := hw_ile c87
                                    refine lv_iload_n hx hb dX12_layMost_135 rfl (lv_at hl 2 rfl) ?_
                                    refine lv_istore_n (lv' := [(3, .int y3_39), (5, .int x85), (4, .int y4_38), (2, .int y2_17), (1, .int y1_10), (0, .ref h0)]) hx hb dX12_layMost_136 rfl hl (by decide) rfl (fun ls hl => ?_)
                                    obtain ⟨x89, e90⟩ : ∃ y : Int32, y = y4_38 + 1 := ⟨_, rfl⟩
                                    refine lv_iinc (v := x89) (lv' := [(4, .int x89), (3, .int y3_39), (5, .int x85), (2, .int y2_17), (1, .int y1_10), (0, .ref h0)]) hx hb dX12_layMost_137 hl (k := 2) rfl (by rw [e90]; rfl) (by decide) rfl (fun ls hl => ?_)
                                    have t91 : x89.toInt = y4_38.toInt + 1 := by rw [e90]; exact hw_add rfl rfl (by omega) (by omega)
                                    refine lv_goto (tgt := 69) hx hb dX12_layMost_140 (by decide) ?_
                                    exact ih69 x89 y3_39 (by first | omega | omega) ⟨by first | decide | omega, by first | decide | omega⟩ _ _ hH vm vmo hS _ (lv_sub hl [0, 1, 3, 4, 5] rfl)
                                  · have b92 : y3_39.toInt < x85.toInt := hw_inle c87
                                    refine lv_iload hx hb dX12_layMost_130 (lv_at hl 0 rfl) ?_
                                    refine lv_goto (tgt := 136) hx hb dX12_layMost_132 (by decide) ?_
                                    refine lv_istore_n (lv' := [(3, .int x85), (5, .int x85), (4, .int y4_38), (2, .int y2_17), (1, .int y1_10), (0, .ref h0)]) hx hb dX12_layMost_136 rfl hl (by decide) rfl (fun ls hl => ?_)
                                    obtain ⟨x93, e94⟩ : ∃ y : Int32, y = y4_38 + 1 := ⟨_, rfl⟩
                                    refine lv_iinc (v := x93) (lv' := [(4, .int x93), (3, .int x85), (5, .int x85), (2, .int y2_17), (1, .int y1_10), (0, .ref h0)]) hx hb dX12_layMost_137 hl (k := 2) rfl (by rw [e94]; rfl) (by decide) rfl (fun ls hl => ?_)
                                    have t95 : x93.toInt = y4_38.toInt + 1 := by rw [e94]; exact hw_add rfl rfl (by omega) (by omega)
                                    refine lv_goto (tgt := 69) hx hb dX12_layMost_140 (by decide) ?_
                                    exact ih69 x93 x85 (by first | omega | omega) ⟨by first | decide | omega, by first | decide | omega⟩ _ _ hH vm vmo hS _ (lv_sub hl [0, 1, 3, 4, 5] rfl)
                              · refine lv_if_eq (tgt := 121) hx hb dX12_layMost_94 (by decide) (fun c96 => ?_) (fun c96 => ?_)
                                · refine lv_iconst (v := 0) hx hb dX12_layMost_121 (by decide) ?_
                                  refine lv_istore (lv' := [(5, .int 0), (4, .int y4_38), (3, .int y3_39), (2, .int y2_17), (1, .int y1_10), (0, .ref h0)]) hx hb dX12_layMost_122 hl (by decide) rfl (fun ls hl => ?_)
                                  refine lv_iload hx hb dX12_layMost_124 (lv_at hl 0 rfl) ?_
                                  refine lv_iload_n hx hb dX12_layMost_126 rfl (lv_at hl 2 rfl) ?_
                                  refine lv_icmp_le (tgt := 135) hx hb dX12_layMost_127 (by decide) (fun c97 => ?_) (fun c97 => ?_)
                                  · have b98 : 0 ≤ y3_39.toInt := hw_ile c97
                                    refine lv_iload_n hx hb dX12_layMost_135 rfl (lv_at hl 2 rfl) ?_
                                    refine lv_istore_n (lv' := [(3, .int y3_39), (5, .int 0), (4, .int y4_38), (2, .int y2_17), (1, .int y1_10), (0, .ref h0)]) hx hb dX12_layMost_136 rfl hl (by decide) rfl (fun ls hl => ?_)
                                    obtain ⟨x99, e100⟩ : ∃ y : Int32, y = y4_38 + 1 := ⟨_, rfl⟩
                                    refine lv_iinc (v := x99) (lv' := [(4, .int x99), (3, .int y3_39), (5, .int 0), (2, .int y2_17), (1, .int y1_10), (0, .ref h0)]) hx hb dX12_layMost_137 hl (k := 2) rfl (by rw [e100]; rfl) (by decide) rfl (fun ls hl => ?_)
                                    have t101 : x99.toInt = y4_38.toInt + 1 := by rw [e100]; exact hw_add rfl rfl (by omega) (by omega)
                                    refine lv_goto (tgt := 69) hx hb dX12_layMost_140 (by decide) ?_
                                    exact ih69 x99 y3_39 (by first | omega | omega) ⟨by first | decide | omega, by first | decide | omega⟩ _ _ hH vm vmo hS _ (lv_sub hl [0, 1, 3, 4, 5] rfl)
                                  · have b102 : y3_39.toInt < 0 := hw_inle c97
                                    refine lv_iload hx hb dX12_layMost_130 (lv_at hl 0 rfl) ?_
                                    refine lv_goto (tgt := 136) hx hb dX12_layMost_132 (by decide) ?_
                                    refine lv_istore_n (lv' := [(3, .int 0), (5, .int 0), (4, .int y4_38), (2, .int y2_17), (1, .int y1_10), (0, .ref h0)]) hx hb dX12_layMost_136 rfl hl (by decide) rfl (fun ls hl => ?_)
                                    obtain ⟨x103, e104⟩ : ∃ y : Int32, y = y4_38 + 1 := ⟨_, rfl⟩
                                    refine lv_iinc (v := x103) (lv' := [(4, .int x103), (3, .int 0), (5, .int 0), (2, .int y2_17), (1, .int y1_10), (0, .ref h0)]) hx hb dX12_layMost_137 hl (k := 2) rfl (by rw [e104]; rfl) (by decide) rfl (fun ls hl => ?_)
                                    have t105 : x103.toInt = y4_38.toInt + 1 := by rw [e104]; exact hw_add rfl rfl (by omega) (by omega)
                                    refine lv_goto (tgt := 69) hx hb dX12_layMost_140 (by decide) ?_
                                    exact ih69 x103 0 (by first | omega | omega) ⟨by first | decide | omega, by first | decide | omega⟩ _ _ hH vm vmo hS _ (lv_sub hl [0, 1, 3, 4, 5] rfl)
                                · exact absurd c96 (by decide)
                    exact L69 _ 0 x36 (Nat.lt_succ_self _) ⟨by first | decide | omega, by first | decide | omega⟩ _ _ hH vm vmo hS _ (lv_sub hl [0, 1, 2, 3, 4] rfl)
              exact L44 _ 0 f11 (Nat.lt_succ_self _) ⟨by first | decide | omega, by first | decide | omega⟩ _ _ hH vm vmo hS _ (lv_sub hl [0, 1, 2] rfl)
        exact L38 _ x7 f2 (Nat.lt_succ_self _) ⟨by first | decide | omega, by first | decide | omega⟩ (by intro h9; exact inv2_0 h9 (by omega)) (by first | assumption | omega | decide | rfl | (intros; first | rfl | assumption | omega)) _ _ hH vm vmo hS _ (lv_sub hl [0, 1] rfl)
      · have b106 : y1_1.toInt < 128 := hw_inle c5
        refine lv_aload_n hx hb dX12_layMost_9 rfl (lv_at hl 1 rfl) ?_
        refine hw_get hx hb fg_81_11 hK vm rfl dX12_layMost_10 ?_
        refine lv_sipush (v := 128) hx hb dX12_layMost_13 (by decide) ?_
        refine lv_aload_n hx hb dX12_layMost_16 rfl (lv_at hl 1 rfl) ?_
        refine hw_get hx hb fg_145_11 hK vm rfl dX12_layMost_17 ?_
        refine lv_imul hx hb dX12_layMost_20 ?_
        refine lv_topi (fun x107 e108 => ?_)
        have t109 : x107.toInt = 128 * lo_m.toInt := by rw [e108]; exact hw_mul rfl rfl (by omega) (by omega)
        refine lv_iload_n hx hb dX12_layMost_21 rfl (lv_at hl 0 rfl) ?_
        refine lv_iadd hx hb dX12_layMost_22 ?_
        refine lv_topi (fun x110 e111 => ?_)
        have t112 : x110.toInt = x107.toInt + y1_1.toInt := by rw [e111]; exact hw_add rfl rfl (by omega) (by omega)
        refine lv_iconst (v := 0) hx hb dX12_layMost_23 (by decide) ?_
        refine hw_iast hx hb hK hH vmo (hw_in (by omega) (by omega)) (fun _ => by rw [(hw_RM_36 Rm)]; exact ⟨_, rfl⟩) hS (hw_AWi (hw_RM_36 Rm) (by decide)) dX12_layMost_24 (fun H locs hH vmo oq hz hS => ?_)
        have vm := va_at.kept vm (oq _ (hw_ne G0 (hw_RM_36 Rm) (by decide)))
        obtain ⟨f113, e114⟩ : ∃ z, z = upd f2 x110.toNatClampNeg 0 := ⟨_, rfl⟩
        rw [← e114] at vmo
        obtain ⟨x115, e116⟩ : ∃ y : Int32, y = y1_1 + 1 := ⟨_, rfl⟩
        refine lv_iinc (v := x115) (lv' := [(1, .int x115), (0, .ref h0)]) hx hb dX12_layMost_25 hl (k := 0) rfl (by rw [e116]; rfl) (by decide) rfl (fun ls hl => ?_)
        have t117 : x115.toInt = y1_1.toInt + 1 := by rw [e116]; exact hw_add rfl rfl (by omega) (by omega)
        refine lv_goto (tgt := 2) hx hb dX12_layMost_28 (by decide) ?_
        exact ih2 x115 f113 (by first | omega | omega) ⟨by first | decide | omega, by first | decide | omega⟩ (by intro h9 h8; rw [e114]; refine hw_upd_or rfl ((Nat.eq_zero_or_pos y1_1.toInt.toNat).elim (fun h7 => Or.inl (hw_cl0 ?_)) (fun h7 => Or.inr (inv2_0 h9 ?_))) <;> omega) _ _ hH vm vmo hS _ (lv_sub hl [0, 1] rfl)
  exact L2 _ 0 fmo (Nat.lt_succ_self _) ⟨by first | decide | omega, by first | decide | omega⟩ (by intro _ h9; exact absurd h9 (by decide)) _ _ hH vm vmo hS _ (lv_sub hl [0, 1] rfl)

set_option maxHeartbeats 4000000 in
set_option maxRecDepth 100000 in
theorem k_X12_firstKey (l : Launch) (D : hw_D) (G : Nat → Nat) (h0 : Nat) (p1 : Int32) (p2 : Int32) (sz : Nat) (G0 : G h0 = 9) (h1x : 0 ≤ p1.toInt ∧ p1.toInt < 7) (hu : 0 ≤ p2.toInt ∧ p2.toInt < 128) : Met l yX12_firstKey wsX12_firstKey ({ frames := 6, cells := 0, slots := 0, locals := 136 } : Room) (hw_PC D G [.ref h0, .int p1, .int p2] sz (fun H => True)) (hw_QR (fun v => ∃ (r : Int32), v = .int r ∧ ((-1) ≤ r.toInt ∧ r.toInt ≤ 6))) 0 0 (fun _ => False) := by
  refine hw_met (cc := cX12_firstKey) (maxL := 4) (ret := (some .int)) (plainFor_of_name (by decide)) rfl (Nat.le_of_ble_eq_true rfl) ?_
  intro p e s m args below meth c QQ ls hsz hx hb hml hr hts hown hlocks hnm hH hK hST hF hQ hl
  subst hsz
  have hS : va_S (hw_AW G [] s.heap.size) s.heap s.heap [] := va_S.rf
  have hl : lv_has ls 4 [(0, .ref h0), (1, .int p1), (2, .int p2)] := hl
  have u_11 : ∀ w ∈ u_ws RX12 TX12 45, w.before args s = true := fun w hw => hts w ((by decide +kernel : ∀ w ∈ u_ws RX12 TX12 45, w ∈ wsX12_firstKey) w hw)
  have fg_142_11 : hw_FG s args m 142 11 3 := ⟨RX12, "WardWalkersModel", RX12, TX12, 45, u_11, hown, rfl, by decide, (hts (.fieldLink RX12 142 "WardWalkersModel" "keys" "I") (by decide +kernel)), (fun _ h9 => h9)⟩
  have fg_81_11 : hw_FG s args m 81 11 36 := ⟨RX12, "WardWalkersModel", RX12, TX12, 45, u_11, hown, rfl, by decide, (hts (.fieldLink RX12 81 "WardWalkersModel" "most" "[I") (by decide +kernel)), (fun _ h9 => h9)⟩
  refine lv_iconst (v := 0) hx hb dX12_firstKey_0 (by decide) ?_
  refine lv_istore_n (lv' := [(3, .int 0), (0, .ref h0), (1, .int p1), (2, .int p2)]) hx hb dX12_firstKey_1 rfl hl (by decide) rfl (fun ls hl => ?_)
  have L2 : ∀ (n3 : Nat) (y3_1 : Int32) (hm : (7 - y3_1.toInt).toNat < n3) (g2 : 0 ≤ y3_1.toInt ∧ y3_1.toInt ≤ 7) (ls : Array Slot) (hl : lv_has ls 4 [(3, .int y3_1), (0, .ref h0), (1, .int p1), (2, .int p2)]), W p l e ({ frames := 6, cells := 0, slots := 0, locals := 136 } : Room) s m args below meth c s.heap [] 0 0 QQ (F0 m 2 ls []) := by
    intro n3
    induction n3 with
    | zero => intro y3_1 hm; exact absurd hm (Nat.not_lt_zero _)
    | succ n3 ih2 =>
      intro y3_1 hm g2 ls hl
      refine lv_iload_n hx hb dX12_firstKey_2 rfl (lv_at hl 0 rfl) ?_
      refine lv_aload_n hx hb dX12_firstKey_3 rfl (lv_at hl 1 rfl) ?_
      obtain ⟨r4, ud_5, ky_6, lo_7, wk_8, dk_9, ln_10, sm_11, fi_12, be_13, rk_14, rl_15, rw_16, cl_17, dg_18, v19, R20, g21, g22, g23, g24, g25, g26, g27, g28, g29, g30, g31, g32⟩ := hH.oM G0
      refine hw_get hx hb fg_142_11 hK v19 rfl dX12_firstKey_4 ?_
      refine lv_icmp_ge (tgt := 70) hx hb dX12_firstKey_7 (by decide) (fun c33 => ?_) (fun c33 => ?_)
      · have b34 : ky_6.toInt ≤ y3_1.toInt := hw_ile c33
        refine lv_iconst (v := (-1)) hx hb dX12_firstKey_70 (by decide) ?_
        exact hw_iretR (v := (-1)) hx hb hr hlocks hQ rfl (⟨(-1), rfl, ⟨by first | decide | omega, by first | decide | omega⟩⟩) dX12_firstKey_71
      · have b35 : y3_1.toInt < ky_6.toInt := hw_inle c33
        refine lv_iload_n hx hb dX12_firstKey_10 rfl (lv_at hl 3 rfl) ?_
        refine lv_iload_n hx hb dX12_firstKey_11 rfl (lv_at hl 0 rfl) ?_
        refine hw_cR (va_runS (As := [.int p2, .int y3_1]) (rest := []) ⟨hx, hb, hml, hown, hts⟩ (k_X12_has l D G p2 y3_1 _) (va_cwS 2 hts gX12_firstKey_X12_has rfl rfl rfl (by decide +kernel) ⟨Nat.le_of_ble_eq_true rfl, Nat.le_of_ble_eq_true rfl⟩) (hw_pS hH hK hST hS (by decide) (fun _ h => Or.inl h) trivial) rfl rfl hl.1 rfl (lv_room (Nat.le_of_ble_eq_true rfl)) dX12_firstKey_12 ⟨Nat.le_of_ble_eq_true rfl, Nat.le_of_ble_eq_true rfl⟩) (fun v hp => ?_)
        rcases hp with rfl | rfl
        · refine lv_if_ne (tgt := 64) hx hb dX12_firstKey_15 (by decide) (fun c36 => ?_) (fun c36 => ?_)
          · obtain ⟨x37, e38⟩ : ∃ y : Int32, y = y3_1 + 1 := ⟨_, rfl⟩
            refine lv_iinc (v := x37) (lv' := [(3, .int x37), (0, .ref h0), (1, .int p1), (2, .int p2)]) hx hb dX12_firstKey_64 hl (k := 0) rfl (by rw [e38]; rfl) (by decide) rfl (fun ls hl => ?_)
            have t39 : x37.toInt = y3_1.toInt + 1 := by rw [e38]; exact hw_add rfl rfl (by omega) (by omega)
            refine lv_goto (tgt := 2) hx hb dX12_firstKey_67 (by decide) ?_
            exact ih2 x37 (by first | omega | omega) ⟨by first | decide | omega, by first | decide | omega⟩ _ (lv_sub hl [0, 1, 2, 3] rfl)
          · exact absurd c36 (by decide)
        · refine lv_if_ne (tgt := 64) hx hb dX12_firstKey_15 (by decide) (fun c40 => ?_) (fun c40 => ?_)
          · exact absurd c40 (by decide)
          · refine lv_aload_n hx hb dX12_firstKey_18 rfl (lv_at hl 1 rfl) ?_
            refine lv_iload_n hx hb dX12_firstKey_19 rfl (lv_at hl 0 rfl) ?_
            refine lv_iload_n hx hb dX12_firstKey_20 rfl (lv_at hl 2 rfl) ?_
            refine hw_cR (va_runV (As := [.int y3_1, .int p1]) (rest := []) ⟨hx, hb, hml, hown, hts⟩ (k_X12_mayMatch l D G h0 y3_1 p1 _ G0 (by first | assumption | decide | omega) (by first | assumption | decide | omega)) (cwV 2 hts gX12_firstKey_X12_mayMatch rfl rfl rfl (by decide +kernel) ⟨Nat.le_of_ble_eq_true rfl, Nat.le_of_ble_eq_true rfl⟩) (hw_pV (hw_rc (q := (RX12, TX12, 45)) hK v19 rfl) hH hK hST hS (by decide) (fun _ h => Or.inl h) trivial) rfl rfl hl.1 rfl (lv_room (Nat.le_of_ble_eq_true rfl)) dX12_firstKey_21 ⟨Nat.le_of_ble_eq_true rfl, Nat.le_of_ble_eq_true rfl⟩) (fun v hp => ?_)
            rcases hp with rfl | rfl
            · refine lv_if_eq (tgt := 64) hx hb dX12_firstKey_24 (by decide) (fun c41 => ?_) (fun c41 => ?_)
              · exact absurd c41 (by decide)
              · refine lv_iconst (v := 1) hx hb dX12_firstKey_27 (by decide) ?_
                refine lv_aload_n hx hb dX12_firstKey_28 rfl (lv_at hl 1 rfl) ?_
                refine hw_get hx hb fg_81_11 hK v19 rfl dX12_firstKey_29 ?_
                refine lv_sipush (v := 128) hx hb dX12_firstKey_32 (by decide) ?_
                refine lv_iload_n hx hb dX12_firstKey_35 rfl (lv_at hl 2 rfl) ?_
                refine lv_iconst (v := 1) hx hb dX12_firstKey_36 (by decide) ?_
                refine lv_iadd hx hb dX12_firstKey_37 ?_
                refine lv_topi (fun x42 e43 => ?_)
                have t44 : x42.toInt = p1.toInt + 1 := by rw [e43]; exact hw_add rfl rfl (by omega) (by omega)
                refine lv_imul hx hb dX12_firstKey_38 ?_
                refine lv_topi (fun x45 e46 => ?_)
                have t47 : x45.toInt = 128 * x42.toInt := by rw [e46]; exact hw_mul rfl rfl (by omega) (by omega)
                refine lv_iload_n hx hb dX12_firstKey_39 rfl (lv_at hl 3 rfl) ?_
                refine lv_iconst (v := 1) hx hb dX12_firstKey_40 (by decide) ?_
                refine lv_iload_n hx hb dX12_firstKey_41 rfl (lv_at hl 0 rfl) ?_
                refine lv_ishl hx hb dX12_firstKey_42 ?_
                refine lv_topi (fun x48 e49 => ?_)
                have t50 : 1 ≤ x48.toInt ∧ x48.toInt ≤ 64 := by rw [e49]; exact hw_sh1b 6 (by decide) (by first | decide | omega) (by first | decide | omega)
                refine lv_ior hx hb dX12_firstKey_43 ?_
                refine lv_topi (fun x51 e52 => ?_)
                have t53 : 0 ≤ x51.toInt ∧ x51.toInt < 128 := by rw [e52]; exact hw_ior (k := 7) (by decide) (by first | decide | omega) (by first | decide | omega) (by first | decide | omega) (by first | decide | omega)
                refine lv_iadd hx hb dX12_firstKey_44 ?_
                refine lv_topi (fun x54 e55 => ?_)
                have t56 : x54.toInt = x45.toInt + x51.toInt := by rw [e55]; exact hw_add rfl rfl (by omega) (by omega)
                obtain ⟨f57, v58⟩ := hH.a76 (hw_RM_36 R20)
                refine hw_iald hx hb hK v58 (hw_in (by omega) (by omega)) dX12_firstKey_45 ?_
                refine lv_topi (fun x60 e61 => ?_)
                refine lv_iadd hx hb dX12_firstKey_46 ?_
                refine lv_topi (fun x62 e63 => ?_)
                refine lv_aload_n hx hb dX12_firstKey_47 rfl (lv_at hl 1 rfl) ?_
                refine hw_get hx hb fg_81_11 hK v19 rfl dX12_firstKey_48 ?_
                refine lv_sipush (v := 128) hx hb dX12_firstKey_51 (by decide) ?_
                refine lv_iload_n hx hb dX12_firstKey_54 rfl (lv_at hl 2 rfl) ?_
                refine lv_imul hx hb dX12_firstKey_55 ?_
                refine lv_topi (fun x64 e65 => ?_)
                have t66 : x64.toInt = 128 * p1.toInt := by rw [e65]; exact hw_mul rfl rfl (by omega) (by omega)
                refine lv_iload_n hx hb dX12_firstKey_56 rfl (lv_at hl 3 rfl) ?_
                refine lv_iadd hx hb dX12_firstKey_57 ?_
                refine lv_topi (fun x67 e68 => ?_)
                have t69 : x67.toInt = x64.toInt + p2.toInt := by rw [e68]; exact hw_add rfl rfl (by omega) (by omega)
                obtain ⟨f70, v71⟩ := hH.a76 (hw_RM_36 R20)
                refine hw_iald hx hb hK v71 (hw_in (by omega) (by omega)) dX12_firstKey_58 ?_
                refine lv_topi (fun x73 e74 => ?_)
                refine lv_icmp_ne (tgt := 64) hx hb dX12_firstKey_59 (by decide) (fun c75 => ?_) (fun c75 => ?_)
                · have b76 : x62.toInt ≠ x73.toInt := hw_ine c75
                  obtain ⟨x77, e78⟩ : ∃ y : Int32, y = y3_1 + 1 := ⟨_, rfl⟩
                  refine lv_iinc (v := x77) (lv' := [(3, .int x77), (0, .ref h0), (1, .int p1), (2, .int p2)]) hx hb dX12_firstKey_64 hl (k := 0) rfl (by rw [e78]; rfl) (by decide) rfl (fun ls hl => ?_)
                  have t79 : x77.toInt = y3_1.toInt + 1 := by rw [e78]; exact hw_add rfl rfl (by omega) (by omega)
                  refine lv_goto (tgt := 2) hx hb dX12_firstKey_67 (by decide) ?_
                  exact ih2 x77 (by first | omega | omega) ⟨by first | decide | omega, by first | decide | omega⟩ _ (lv_sub hl [0, 1, 2, 3] rfl)
                · have b80 : x62.toInt = x73.toInt := hw_ieq c75
                  refine lv_iload_n hx hb dX12_firstKey_62 rfl (lv_at hl 0 rfl) ?_
                  exact hw_iretR (v := y3_1) hx hb hr hlocks hQ rfl (⟨y3_1, rfl, ⟨by first | decide | omega, by first | decide | omega⟩⟩) dX12_firstKey_63
            · refine lv_if_eq (tgt := 64) hx hb dX12_firstKey_24 (by decide) (fun c81 => ?_) (fun c81 => ?_)
              · obtain ⟨x82, e83⟩ : ∃ y : Int32, y = y3_1 + 1 := ⟨_, rfl⟩
                refine lv_iinc (v := x82) (lv' := [(3, .int x82), (0, .ref h0), (1, .int p1), (2, .int p2)]) hx hb dX12_firstKey_64 hl (k := 0) rfl (by rw [e83]; rfl) (by decide) rfl (fun ls hl => ?_)
                have t84 : x82.toInt = y3_1.toInt + 1 := by rw [e83]; exact hw_add rfl rfl (by omega) (by omega)
                refine lv_goto (tgt := 2) hx hb dX12_firstKey_67 (by decide) ?_
                exact ih2 x82 (by first | omega | omega) ⟨by first | decide | omega, by first | decide | omega⟩ _ (lv_sub hl [0, 1, 2, 3] rfl)
              · exact absurd c81 (by decide)
  exact L2 _ 0 (Nat.lt_succ_self _) ⟨by first | decide | omega, by first | decide | omega⟩ _ (lv_sub hl [0, 1, 2, 3] rfl)

set_option maxHeartbeats 4000000 in
set_option maxRecDepth 100000 in
theorem k_X12_match (l : Launch) (D : hw_D) (G : Nat → Nat) (h0 : Nat) (p1 : Int32) (sz : Nat) (rm : Nat → Nat) (ud_m ky_m lo_m wk_m dk_m ln_m sm_m fi_m be_m rk_m rl_m rw_m cl_m dg_m : Int32) (G0 : G h0 = 9) (Rm : hw_RM G rm) (gud_m : 0 ≤ ud_m.toInt ∧ ud_m.toInt ≤ 8) (gky_m : 0 ≤ ky_m.toInt ∧ ky_m.toInt ≤ 7) (glo_m : 0 ≤ lo_m.toInt ∧ lo_m.toInt ≤ 7) (gwk_m : 0 ≤ wk_m.toInt ∧ wk_m.toInt ≤ 3) (gln_m : 0 ≤ ln_m.toInt ∧ ln_m.toInt ≤ 200) (gsm_m : 0 ≤ sm_m.toInt ∧ sm_m.toInt ≤ 6) (gfi_m : 0 ≤ fi_m.toInt ∧ fi_m.toInt ≤ 200) (gbe_m : 0 ≤ be_m.toInt ∧ be_m.toInt ≤ 200) (grk_m : 0 ≤ rk_m.toInt ∧ rk_m.toInt ≤ 7) (grl_m : 0 ≤ rl_m.toInt ∧ rl_m.toInt ≤ 7) (grw_m : 0 ≤ rw_m.toInt ∧ rw_m.toInt ≤ 3) (gdg_m : 0 ≤ dg_m.toInt ∧ dg_m.toInt ≤ 1) : Met l yX12_match wsX12_match ({ frames := 7, cells := 0, slots := 0, locals := 161 } : Room) (hw_PC D G [.ref h0, .int p1] sz (fun H => va_at D.1 vwCl (h0, .inr (11, hw_LM rm ud_m ky_m lo_m wk_m dk_m ln_m sm_m fi_m be_m rk_m rl_m rw_m cl_m dg_m)) H)) (hw_QM (fun v H => ∃ (r : Int32), v = some (.int r) ∧ hw_HT D G H ∧ va_at D.1 vwCl (h0, .inr (11, hw_LM rm ud_m ky_m lo_m wk_m dk_m ln_m sm_m fi_m be_m rk_m rl_m rw_m cl_m dg_m)) H ∧ (lo_m.toInt = 0 → p1.toInt = -1 → r.toInt = 0) ∧ (lo_m.toInt = 0 → p1.toInt ≠ -1 → r.toInt = -2)) (hw_AW G [76] sz)) 0 0 (hw_AW G [76] sz) := by
  refine hw_met (cc := cX12_match) (maxL := 5) (ret := (some .int)) (plainFor_of_name (by decide)) rfl (Nat.le_of_ble_eq_true rfl) ?_
  intro p e s m args below meth c QQ ls hsz hx hb hml hr hts hown hlocks hnm hH hK hST hF hQ hl
  subst hsz
  have hS : va_S (hw_AW G [76] s.heap.size) s.heap s.heap [] := va_S.rf
  have vm := hF
  have hl : lv_has ls 5 [(0, .ref h0), (1, .int p1)] := hl
  have u_11 : ∀ w ∈ u_ws RX12 TX12 45, w.before args s = true := fun w hw => hts w ((by decide +kernel : ∀ w ∈ u_ws RX12 TX12 45, w ∈ wsX12_match) w hw)
  have fg_81_11 : hw_FG s args m 81 11 36 := ⟨RX12, "WardWalkersModel", RX12, TX12, 45, u_11, hown, rfl, by decide, (hts (.fieldLink RX12 81 "WardWalkersModel" "most" "[I") (by decide +kernel)), (fun _ h9 => h9)⟩
  refine lv_iload_n hx hb dX12_match_0 rfl (lv_at hl 1 rfl) ?_
  refine lv_iconst (v := (-1)) hx hb dX12_match_1 (by decide) ?_
  refine lv_icmp_eq (tgt := 16) hx hb dX12_match_2 (by decide) (fun c1 => ?_) (fun c1 => ?_)
  · have b2 : p1.toInt = (-1) := hw_ieq c1
    refine lv_aload_n hx hb dX12_match_16 rfl (lv_at hl 0 rfl) ?_
    obtain ⟨f3, v4⟩ := hH.a76 (hw_RM_36 Rm)
    refine hw_cM0 (va_runV (As := []) (rest := []) ⟨hx, hb, hml, hown, hts⟩ (k_X12_layMost l D G h0 _ rm ud_m ky_m lo_m wk_m dk_m ln_m sm_m fi_m be_m rk_m rl_m rw_m cl_m dg_m f3 G0 Rm ⟨by first | decide | omega, by first | decide | omega⟩ ⟨by first | decide | omega, by first | decide | omega⟩ ⟨by first | decide | omega, by first | decide | omega⟩ ⟨by first | decide | omega, by first | decide | omega⟩ ⟨by first | decide | omega, by first | decide | omega⟩ ⟨by first | decide | omega, by first | decide | omega⟩ ⟨by first | decide | omega, by first | decide | omega⟩ ⟨by first | decide | omega, by first | decide | omega⟩ ⟨by first | decide | omega, by first | decide | omega⟩ ⟨by first | decide | omega, by first | decide | omega⟩ ⟨by first | decide | omega, by first | decide | omega⟩ ⟨by first | decide | omega, by first | decide | omega⟩) (cwV 0 hts gX12_match_X12_layMost rfl rfl rfl (by decide +kernel) ⟨Nat.le_of_ble_eq_true rfl, Nat.le_of_ble_eq_true rfl⟩) (hw_pV (hw_rc (q := (RX12, TX12, 45)) hK vm rfl) hH hK hST hS (by decide) (fun _ h => Or.inl h) ⟨vm, v4⟩) rfl rfl hl.1 rfl (lv_room (Nat.le_of_ble_eq_true rfl)) dX12_match_17 ⟨Nat.le_of_ble_eq_true rfl, Nat.le_of_ble_eq_true rfl⟩) hS (hw_AWsub (by decide) (fun _ _ => rfl) hS.1) (fun v H locs hp hz hk hS => ?_)
    obtain ⟨f6, rfl, hH, v7, v8, q9⟩ := hp
    have hmo := q9
    refine lv_iload_n hx hb dX12_match_20 rfl (lv_at hl 1 rfl) ?_
    refine lv_iconst (v := (-1)) hx hb dX12_match_21 (by decide) ?_
    refine lv_icmp_ne (tgt := 32) hx hb dX12_match_22 (by decide) (fun c10 => ?_) (fun c10 => ?_)
    · have b11 : p1.toInt ≠ (-1) := hw_ine c10
      exfalso; omega
    · have b12 : p1.toInt = (-1) := hw_ieq c10
      refine lv_aload_n hx hb dX12_match_25 rfl (lv_at hl 0 rfl) ?_
      refine hw_get hx hb fg_81_11 hK v7 rfl dX12_match_26 ?_
      refine lv_iconst (v := 0) hx hb dX12_match_29 (by decide) ?_
      refine hw_iald hx hb hK v8 (hw_in (x := 0) (by decide) (by decide)) dX12_match_30 ?_
      refine lv_topi (fun x13 e14 => ?_)
      have hm0 : lo_m.toInt = 0 → x13.toInt = 0 := by intro h9; rw [e14]; show (f6 0).toInt = 0; rw [hmo h9]; rfl
      exact hw_iretM (v := x13) hx hb hr hlocks hQ hS rfl (⟨x13, rfl, hH, v7, (by first | rfl | trivial | assumption | omega | (intros; first | rfl | assumption | omega | (exfalso; omega))), (by first | rfl | trivial | assumption | omega | (intros; first | rfl | assumption | omega | (exfalso; omega)))⟩) dX12_match_31
  · have b15 : p1.toInt ≠ (-1) := hw_ine c1
    refine lv_aload_n hx hb dX12_match_5 rfl (lv_at hl 0 rfl) ?_
    refine lv_iload_n hx hb dX12_match_6 rfl (lv_at hl 1 rfl) ?_
    refine hw_cR (va_runV (As := [.int p1]) (rest := []) ⟨hx, hb, hml, hown, hts⟩ (k_X12_isLock l D G h0 p1 _ rm ud_m ky_m lo_m wk_m dk_m ln_m sm_m fi_m be_m rk_m rl_m rw_m cl_m dg_m G0 Rm ⟨by first | decide | omega, by first | decide | omega⟩ ⟨by first | decide | omega, by first | decide | omega⟩ ⟨by first | decide | omega, by first | decide | omega⟩ ⟨by first | decide | omega, by first | decide | omega⟩ ⟨by first | decide | omega, by first | decide | omega⟩ ⟨by first | decide | omega, by first | decide | omega⟩ ⟨by first | decide | omega, by first | decide | omega⟩ ⟨by first | decide | omega, by first | decide | omega⟩ ⟨by first | decide | omega, by first | decide | omega⟩ ⟨by first | decide | omega, by first | decide | omega⟩ ⟨by first | decide | omega, by first | decide | omega⟩ ⟨by first | decide | omega, by first | decide | omega⟩) (cwV 1 hts gX12_match_X12_isLock rfl rfl rfl (by decide +kernel) ⟨Nat.le_of_ble_eq_true rfl, Nat.le_of_ble_eq_true rfl⟩) (hw_pV (hw_rc (q := (RX12, TX12, 45)) hK vm rfl) hH hK hST hS (by decide) (fun _ h => Or.inl h) vm) rfl rfl hl.1 rfl (lv_room (Nat.le_of_ble_eq_true rfl)) dX12_match_7 ⟨Nat.le_of_ble_eq_true rfl, Nat.le_of_ble_eq_true rfl⟩) (fun v hp => ?_)
    rcases hp with ⟨rfl, q16⟩ | ⟨rfl, q17⟩
    · refine lv_if_ne (tgt := 16) hx hb dX12_match_10 (by decide) (fun c18 => ?_) (fun c18 => ?_)
      · refine lv_aload_n hx hb dX12_match_16 rfl (lv_at hl 0 rfl) ?_
        obtain ⟨f19, v20⟩ := hH.a76 (hw_RM_36 Rm)
        refine hw_cM0 (va_runV (As := []) (rest := []) ⟨hx, hb, hml, hown, hts⟩ (k_X12_layMost l D G h0 _ rm ud_m ky_m lo_m wk_m dk_m ln_m sm_m fi_m be_m rk_m rl_m rw_m cl_m dg_m f19 G0 Rm ⟨by first | decide | omega, by first | decide | omega⟩ ⟨by first | decide | omega, by first | decide | omega⟩ ⟨by first | decide | omega, by first | decide | omega⟩ ⟨by first | decide | omega, by first | decide | omega⟩ ⟨by first | decide | omega, by first | decide | omega⟩ ⟨by first | decide | omega, by first | decide | omega⟩ ⟨by first | decide | omega, by first | decide | omega⟩ ⟨by first | decide | omega, by first | decide | omega⟩ ⟨by first | decide | omega, by first | decide | omega⟩ ⟨by first | decide | omega, by first | decide | omega⟩ ⟨by first | decide | omega, by first | decide | omega⟩ ⟨by first | decide | omega, by first | decide | omega⟩) (cwV 0 hts gX12_match_X12_layMost rfl rfl rfl (by decide +kernel) ⟨Nat.le_of_ble_eq_true rfl, Nat.le_of_ble_eq_true rfl⟩) (hw_pV (hw_rc (q := (RX12, TX12, 45)) hK vm rfl) hH hK hST hS (by decide) (fun _ h => Or.inl h) ⟨vm, v20⟩) rfl rfl hl.1 rfl (lv_room (Nat.le_of_ble_eq_true rfl)) dX12_match_17 ⟨Nat.le_of_ble_eq_true rfl, Nat.le_of_ble_eq_true rfl⟩) hS (hw_AWsub (by decide) (fun _ _ => rfl) hS.1) (fun v H locs hp hz hk hS => ?_)
        obtain ⟨f22, rfl, hH, v23, v24, q25⟩ := hp
        have hmo := q25
        refine lv_iload_n hx hb dX12_match_20 rfl (lv_at hl 1 rfl) ?_
        refine lv_iconst (v := (-1)) hx hb dX12_match_21 (by decide) ?_
        refine lv_icmp_ne (tgt := 32) hx hb dX12_match_22 (by decide) (fun c26 => ?_) (fun c26 => ?_)
        · have b27 : p1.toInt ≠ (-1) := hw_ine c26
          refine lv_iconst (v := 0) hx hb dX12_match_32 (by decide) ?_
          refine lv_istore_n (lv' := [(2, .int 0), (0, .ref h0), (1, .int p1)]) hx hb dX12_match_33 rfl hl (by decide) rfl (fun ls hl => ?_)
          refine lv_iconst (v := (-1)) hx hb dX12_match_34 (by decide) ?_
          refine lv_istore_n (lv' := [(3, .int (-1)), (2, .int 0), (0, .ref h0), (1, .int p1)]) hx hb dX12_match_35 rfl hl (by decide) rfl (fun ls hl => ?_)
          refine lv_iconst (v := 0) hx hb dX12_match_36 (by decide) ?_
          refine lv_istore (lv' := [(4, .int 0), (3, .int (-1)), (2, .int 0), (0, .ref h0), (1, .int p1)]) hx hb dX12_match_37 hl (by decide) rfl (fun ls hl => ?_)
          have L39 : ∀ (n34 : Nat) (y4_28 : Int32) (y3_29 : Int32) (y2_30 : Int32) (hm : (7 - y4_28.toInt).toNat < n34) (g31 : 0 ≤ y2_30.toInt ∧ y2_30.toInt ≤ 127) (g32 : (-1) ≤ y3_29.toInt ∧ y3_29.toInt ≤ 6) (g33 : 0 ≤ y4_28.toInt ∧ y4_28.toInt ≤ 7) (H : Heap) (locs : List Loc) (hH : hw_HT D G H) (v23 : va_at D.1 vwCl (h0, .inr (11, hw_LM rm ud_m ky_m lo_m wk_m dk_m ln_m sm_m fi_m be_m rk_m rl_m rw_m cl_m dg_m)) H) (hS : va_S (hw_AW G [76] s.heap.size) s.heap H locs) (ls : Array Slot) (hl : lv_has ls 5 [(4, .int y4_28), (3, .int y3_29), (2, .int y2_30), (0, .ref h0), (1, .int p1)]), W p l e ({ frames := 7, cells := 0, slots := 0, locals := 161 } : Room) s m args below meth c H locs 0 0 QQ (F0 m 39 ls []) := by
            intro n34
            induction n34 with
            | zero => intro y4_28 y3_29 y2_30 hm; exact absurd hm (Nat.not_lt_zero _)
            | succ n34 ih39 =>
              intro y4_28 y3_29 y2_30 hm g31 g32 g33 H locs hH v23 hS ls hl
              refine lv_iload hx hb dX12_match_39 (lv_at hl 0 rfl) ?_
              refine lv_iload_n hx hb dX12_match_41 rfl (lv_at hl 4 rfl) ?_
              refine lv_icmp_gt (tgt := 74) hx hb dX12_match_42 (by decide) (fun c35 => ?_) (fun c35 => ?_)
              · have b36 : p1.toInt < y4_28.toInt := hw_ilt c35
                refine lv_iload_n hx hb dX12_match_74 rfl (lv_at hl 1 rfl) ?_
                exact hw_iretM (v := y3_29) hx hb hr hlocks hQ hS rfl (⟨y3_29, rfl, hH, v23, (by first | rfl | trivial | assumption | omega | (intros; first | rfl | assumption | omega | (exfalso; omega))), (by first | rfl | trivial | assumption | omega | (intros; first | rfl | assumption | omega | (exfalso; omega)))⟩) dX12_match_75
              · have b37 : y4_28.toInt ≤ p1.toInt := hw_inlt c35
                refine lv_aload_n hx hb dX12_match_45 rfl (lv_at hl 3 rfl) ?_
                refine lv_iload hx hb dX12_match_46 (lv_at hl 0 rfl) ?_
                refine lv_iload_n hx hb dX12_match_48 rfl (lv_at hl 2 rfl) ?_
                refine hw_cR (va_runV (As := [.int y4_28, .int y2_30]) (rest := []) ⟨hx, hb, hml, hown, hts⟩ (k_X12_firstKey l D G h0 y4_28 y2_30 _ G0 (by first | assumption | decide | omega) (by first | assumption | decide | omega)) (cwV 2 hts gX12_match_X12_firstKey rfl rfl rfl (by decide +kernel) ⟨Nat.le_of_ble_eq_true rfl, Nat.le_of_ble_eq_true rfl⟩) (hw_pV (hw_rc (q := (RX12, TX12, 45)) hK v23 rfl) hH hK hST hS (by decide) (fun _ h => Or.inl h) trivial) rfl rfl hl.1 rfl (lv_room (Nat.le_of_ble_eq_true rfl)) dX12_match_49 ⟨Nat.le_of_ble_eq_true rfl, Nat.le_of_ble_eq_true rfl⟩) (fun v hp => ?_)
                obtain ⟨x38, rfl, g39⟩ := hp
                refine lv_istore_n (lv' := [(3, .int x38), (4, .int y4_28), (2, .int y2_30), (0, .ref h0), (1, .int p1)]) hx hb dX12_match_52 rfl hl (by decide) rfl (fun ls hl => ?_)
                refine lv_iload_n hx hb dX12_match_53 rfl (lv_at hl 2 rfl) ?_
                refine lv_iload_n hx hb dX12_match_54 rfl (lv_at hl 0 rfl) ?_
                refine lv_iconst (v := (-1)) hx hb dX12_match_55 (by decide) ?_
                refine lv_icmp_ne (tgt := 63) hx hb dX12_match_56 (by decide) (fun c40 => ?_) (fun c40 => ?_)
                · have b41 : x38.toInt ≠ (-1) := hw_ine c40
                  refine lv_iconst (v := 1) hx hb dX12_match_63 (by decide) ?_
                  refine lv_iload_n hx hb dX12_match_64 rfl (lv_at hl 0 rfl) ?_
                  refine lv_ishl hx hb dX12_match_65 ?_
                  refine lv_topi (fun x42 e43 => ?_)
                  have t44 : 1 ≤ x42.toInt ∧ x42.toInt ≤ 64 := by rw [e43]; exact hw_sh1b 6 (by decide) (by first | decide | omega) (by first | decide | omega)
                  refine lv_ior hx hb dX12_match_66 ?_
                  refine lv_topi (fun x45 e46 => ?_)
                  have t47 : 0 ≤ x45.toInt ∧ x45.toInt < 128 := by rw [e46]; exact hw_ior (k := 7) (by decide) (by first | decide | omega) (by first | decide | omega) (by first | decide | omega) (by first | decide | omega)
                  refine lv_istore_n (lv' := [(2, .int x45), (3, .int x38), (4, .int y4_28), (0, .ref h0), (1, .int p1)]) hx hb dX12_match_67 rfl hl (by decide) rfl (fun ls hl => ?_)
                  obtain ⟨x48, e49⟩ : ∃ y : Int32, y = y4_28 + 1 := ⟨_, rfl⟩
                  refine lv_iinc (v := x48) (lv' := [(4, .int x48), (2, .int x45), (3, .int x38), (0, .ref h0), (1, .int p1)]) hx hb dX12_match_68 hl (k := 2) rfl (by rw [e49]; rfl) (by decide) rfl (fun ls hl => ?_)
                  have t50 : x48.toInt = y4_28.toInt + 1 := by rw [e49]; exact hw_add rfl rfl (by omega) (by omega)
                  refine lv_goto (tgt := 39) hx hb dX12_match_71 (by decide) ?_
                  exact ih39 x48 x38 x45 (by first | omega | omega) ⟨by first | decide | omega, by first | decide | omega⟩ ⟨by first | decide | omega, by first | decide | omega⟩ ⟨by first | decide | omega, by first | decide | omega⟩ _ _ hH v23 hS _ (lv_sub hl [0, 2, 1, 3, 4] rfl)
                · have b51 : x38.toInt = (-1) := hw_ieq c40
                  refine lv_iconst (v := 0) hx hb dX12_match_59 (by decide) ?_
                  refine lv_goto (tgt := 66) hx hb dX12_match_60 (by decide) ?_
                  refine lv_ior hx hb dX12_match_66 ?_
                  refine lv_topi (fun x52 e53 => ?_)
                  have t54 : 0 ≤ x52.toInt ∧ x52.toInt < 128 := by rw [e53]; exact hw_ior (k := 7) (by decide) (by first | decide | omega) (by first | decide | omega) (by first | decide | omega) (by first | decide | omega)
                  refine lv_istore_n (lv' := [(2, .int x52), (3, .int x38), (4, .int y4_28), (0, .ref h0), (1, .int p1)]) hx hb dX12_match_67 rfl hl (by decide) rfl (fun ls hl => ?_)
                  obtain ⟨x55, e56⟩ : ∃ y : Int32, y = y4_28 + 1 := ⟨_, rfl⟩
                  refine lv_iinc (v := x55) (lv' := [(4, .int x55), (2, .int x52), (3, .int x38), (0, .ref h0), (1, .int p1)]) hx hb dX12_match_68 hl (k := 2) rfl (by rw [e56]; rfl) (by decide) rfl (fun ls hl => ?_)
                  have t57 : x55.toInt = y4_28.toInt + 1 := by rw [e56]; exact hw_add rfl rfl (by omega) (by omega)
                  refine lv_goto (tgt := 39) hx hb dX12_match_71 (by decide) ?_
                  exact ih39 x55 x38 x52 (by first | omega | omega) ⟨by first | decide | omega, by first | decide | omega⟩ ⟨by first | decide | omega, by first | decide | omega⟩ ⟨by first | decide | omega, by first | decide | omega⟩ _ _ hH v23 hS _ (lv_sub hl [0, 2, 1, 3, 4] rfl)
          exact L39 _ 0 (-1) 0 (Nat.lt_succ_self _) ⟨by first | decide | omega, by first | decide | omega⟩ ⟨by first | decide | omega, by first | decide | omega⟩ ⟨by first | decide | omega, by first | decide | omega⟩ _ _ hH v23 hS _ (lv_sub hl [0, 1, 2, 3, 4] rfl)
        · have b58 : p1.toInt = (-1) := hw_ieq c26
          refine lv_aload_n hx hb dX12_match_25 rfl (lv_at hl 0 rfl) ?_
          refine hw_get hx hb fg_81_11 hK v23 rfl dX12_match_26 ?_
          refine lv_iconst (v := 0) hx hb dX12_match_29 (by decide) ?_
          refine hw_iald hx hb hK v24 (hw_in (x := 0) (by decide) (by decide)) dX12_match_30 ?_
          refine lv_topi (fun x59 e60 => ?_)
          have hm0 : lo_m.toInt = 0 → x59.toInt = 0 := by intro h9; rw [e60]; show (f22 0).toInt = 0; rw [hmo h9]; rfl
          exact hw_iretM (v := x59) hx hb hr hlocks hQ hS rfl (⟨x59, rfl, hH, v23, (by first | rfl | trivial | assumption | omega | (intros; first | rfl | assumption | omega | (exfalso; omega))), (by first | rfl | trivial | assumption | omega | (intros; first | rfl | assumption | omega | (exfalso; omega)))⟩) dX12_match_31
      · exact absurd c18 (by decide)
    · refine lv_if_ne (tgt := 16) hx hb dX12_match_10 (by decide) (fun c61 => ?_) (fun c61 => ?_)
      · exact absurd c61 (by decide)
      · refine lv_bipush (v := (-2)) hx hb dX12_match_13 (by decide) ?_
        exact hw_iretM (v := (-2)) hx hb hr hlocks hQ hS rfl (⟨(-2), rfl, hH, vm, (by first | rfl | trivial | assumption | omega | (intros; first | rfl | assumption | omega | (exfalso; omega))), (by first | rfl | trivial | assumption | omega | (intros; first | rfl | assumption | omega | (exfalso; omega)))⟩) dX12_match_15

set_option maxHeartbeats 4000000 in
set_option maxRecDepth 100000 in
theorem k_X12_shortestTo (l : Launch) (D : hw_D) (G : Nat → Nat) (h0 : Nat) (p1 : Int32) (p2 : Int32) (p3 : Int32) (sz : Nat) (G0 : G h0 = 9) (hs : 0 ≤ p1.toInt ∧ p1.toInt < 128) (h2x : 0 ≤ p2.toInt ∧ p2.toInt < 7) (h3x : 0 ≤ p3.toInt ∧ p3.toInt < 3) : Met l yX12_shortestTo wsX12_shortestTo ({ frames := 1, cells := 0, slots := 0, locals := 23 } : Room) (hw_PC D G [.ref h0, .int p1, .int p2, .int p3] sz (fun H => True)) (hw_QR (fun v => ∃ (r : Int32), v = .int r)) 0 0 (fun _ => False) := by
  refine hw_met (cc := cX12_shortestTo) (maxL := 8) (ret := (some .int)) (plainFor_of_name (by decide)) rfl (Nat.le_of_ble_eq_true rfl) ?_
  intro p e s m args below meth c QQ ls hsz hx hb hml hr hts hown hlocks hnm hH hK hST hF hQ hl
  subst hsz
  have hS : va_S (hw_AW G [] s.heap.size) s.heap s.heap [] := va_S.rf
  have hl : lv_has ls 8 [(0, .ref h0), (1, .int p1), (2, .int p2), (3, .int p3)] := hl
  have u_11 : ∀ w ∈ u_ws RX12 TX12 45, w.before args s = true := fun w hw => hts w ((by decide +kernel : ∀ w ∈ u_ws RX12 TX12 45, w ∈ wsX12_shortestTo) w hw)
  have fg_145_11 : hw_FG s args m 145 11 7 := ⟨RX12, "WardWalkersModel", RX12, TX12, 45, u_11, hown, rfl, by decide, (hts (.fieldLink RX12 145 "WardWalkersModel" "locks" "I") (by decide +kernel)), (fun _ h9 => h9)⟩
  have fg_84_11 : hw_FG s args m 84 11 37 := ⟨RX12, "WardWalkersModel", RX12, TX12, 45, u_11, hown, rfl, by decide, (hts (.fieldLink RX12 84 "WardWalkersModel" "ways" "[I") (by decide +kernel)), (fun _ h9 => h9)⟩
  have fg_26_11 : hw_FG s args m 26 11 8 := ⟨RX12, "WardWalkersModel", RX12, TX12, 45, u_11, hown, rfl, by decide, (hts (.fieldLink RX12 26 "WardWalkersModel" "places" "[I") (by decide +kernel)), (fun _ h9 => h9)⟩
  have fg_7_11 : hw_FG s args m 7 11 0 := ⟨RX12, "WardWalkersModel", RX12, TX12, 45, u_11, hown, rfl, by decide, (hts (.fieldLink RX12 7 "WardWalkersModel" "row" "[I") (by decide +kernel)), (fun _ h9 => h9)⟩
  refine lv_iload_n hx hb dX12_shortestTo_0 rfl (lv_at hl 1 rfl) ?_
  refine lv_iconst (v := 1) hx hb dX12_shortestTo_1 (by decide) ?_
  refine lv_iload_n hx hb dX12_shortestTo_2 rfl (lv_at hl 2 rfl) ?_
  refine lv_ishl hx hb dX12_shortestTo_3 ?_
  refine lv_topi (fun x1 e2 => ?_)
  have t3 : 1 ≤ x1.toInt ∧ x1.toInt ≤ 64 := by rw [e2]; exact hw_sh1b 6 (by decide) (by first | decide | omega) (by first | decide | omega)
  refine lv_iconst (v := (-1)) hx hb dX12_shortestTo_4 (by decide) ?_
  refine lv_ixor hx hb dX12_shortestTo_5 ?_
  refine lv_topi (fun x4 e5 => ?_)
  refine lv_iand hx hb dX12_shortestTo_6 ?_
  refine lv_topi (fun x6 e7 => ?_)
  have t8 : 0 ≤ x6.toInt ∧ x6.toInt ≤ p1.toInt := by rw [e7]; exact hw_and2 (by first | decide | omega)
  refine lv_istore (lv' := [(4, .int x6), (0, .ref h0), (1, .int p1), (2, .int p2), (3, .int p3)]) hx hb dX12_shortestTo_7 hl (by decide) rfl (fun ls hl => ?_)
  refine lv_iload hx hb dX12_shortestTo_9 (lv_at hl 0 rfl) ?_
  refine lv_if_ne (tgt := 35) hx hb dX12_shortestTo_11 (by decide) (fun c9 => ?_) (fun c9 => ?_)
  · have b10 : x6.toInt ≠ 0 := hw_ine c9
    refine lv_ldcw (v := 99999) hx hb hown (hts (.constant RX12 279 (99999)) (by decide +kernel)) dX12_shortestTo_35 ?_
    refine lv_istore (lv' := [(5, .int 99999), (4, .int x6), (0, .ref h0), (1, .int p1), (2, .int p2), (3, .int p3)]) hx hb dX12_shortestTo_38 hl (by decide) rfl (fun ls hl => ?_)
    refine lv_iconst (v := 0) hx hb dX12_shortestTo_40 (by decide) ?_
    refine lv_istore (lv' := [(6, .int 0), (5, .int 99999), (4, .int x6), (0, .ref h0), (1, .int p1), (2, .int p2), (3, .int p3)]) hx hb dX12_shortestTo_41 hl (by decide) rfl (fun ls hl => ?_)
    have L43 : ∀ (n14 : Nat) (y6_11 : Int32) (y5_12 : Int32) (hm : (7 - y6_11.toInt).toNat < n14) (g13 : 0 ≤ y6_11.toInt ∧ y6_11.toInt ≤ 7) (ls : Array Slot) (hl : lv_has ls 8 [(6, .int y6_11), (5, .int y5_12), (4, .int x6), (0, .ref h0), (1, .int p1), (2, .int p2), (3, .int p3)]), W p l e ({ frames := 1, cells := 0, slots := 0, locals := 23 } : Room) s m args below meth c s.heap [] 0 0 QQ (F0 m 43 ls []) := by
      intro n14
      induction n14 with
      | zero => intro y6_11 y5_12 hm; exact absurd hm (Nat.not_lt_zero _)
      | succ n14 ih43 =>
        intro y6_11 y5_12 hm g13 ls hl
        refine lv_iload hx hb dX12_shortestTo_43 (lv_at hl 0 rfl) ?_
        refine lv_aload_n hx hb dX12_shortestTo_45 rfl (lv_at hl 3 rfl) ?_
        obtain ⟨r15, ud_16, ky_17, lo_18, wk_19, dk_20, ln_21, sm_22, fi_23, be_24, rk_25, rl_26, rw_27, cl_28, dg_29, v30, R31, g32, g33, g34, g35, g36, g37, g38, g39, g40, g41, g42, g43⟩ := hH.oM G0
        refine hw_get hx hb fg_145_11 hK v30 rfl dX12_shortestTo_46 ?_
        refine lv_icmp_ge (tgt := 124) hx hb dX12_shortestTo_49 (by decide) (fun c44 => ?_) (fun c44 => ?_)
        · have b45 : lo_18.toInt ≤ y6_11.toInt := hw_ile c44
          refine lv_iload hx hb dX12_shortestTo_124 (lv_at hl 1 rfl) ?_
          exact hw_iretR (v := y5_12) hx hb hr hlocks hQ rfl (⟨y5_12, rfl⟩) dX12_shortestTo_126
        · have b46 : y6_11.toInt < lo_18.toInt := hw_inle c44
          refine lv_iload hx hb dX12_shortestTo_52 (lv_at hl 2 rfl) ?_
          refine lv_iload hx hb dX12_shortestTo_54 (lv_at hl 0 rfl) ?_
          refine hw_cR (va_runS (As := [.int x6, .int y6_11]) (rest := []) ⟨hx, hb, hml, hown, hts⟩ (k_X12_has l D G x6 y6_11 _) (va_cwS 2 hts gX12_shortestTo_X12_has rfl rfl rfl (by decide +kernel) ⟨Nat.le_of_ble_eq_true rfl, Nat.le_of_ble_eq_true rfl⟩) (hw_pS hH hK hST hS (by decide) (fun _ h => Or.inl h) trivial) rfl rfl hl.1 rfl (lv_room (Nat.le_of_ble_eq_true rfl)) dX12_shortestTo_56 ⟨Nat.le_of_ble_eq_true rfl, Nat.le_of_ble_eq_true rfl⟩) (fun v hp => ?_)
          rcases hp with rfl | rfl
          · refine lv_if_eq (tgt := 97) hx hb dX12_shortestTo_59 (by decide) (fun c47 => ?_) (fun c47 => ?_)
            · exact absurd c47 (by decide)
            · refine lv_aload_n hx hb dX12_shortestTo_62 rfl (lv_at hl 3 rfl) ?_
              refine hw_get hx hb fg_84_11 hK v30 rfl dX12_shortestTo_63 ?_
              refine lv_bipush (v := 7) hx hb dX12_shortestTo_66 (by decide) ?_
              refine lv_iload hx hb dX12_shortestTo_68 (lv_at hl 2 rfl) ?_
              refine lv_imul hx hb dX12_shortestTo_70 ?_
              refine lv_topi (fun x48 e49 => ?_)
              have t50 : x48.toInt = 7 * x6.toInt := by rw [e49]; exact hw_mul rfl rfl (by omega) (by omega)
              refine lv_iload hx hb dX12_shortestTo_71 (lv_at hl 0 rfl) ?_
              refine lv_iadd hx hb dX12_shortestTo_73 ?_
              refine lv_topi (fun x51 e52 => ?_)
              have t53 : x51.toInt = x48.toInt + y6_11.toInt := by rw [e52]; exact hw_add rfl rfl (by omega) (by omega)
              obtain ⟨f54, v55⟩ := hH.a77 (hw_RM_37 R31)
              refine hw_iald hx hb hK v55 (hw_in (by omega) (by omega)) dX12_shortestTo_74 ?_
              refine lv_topi (fun x57 e58 => ?_)
              refine lv_aload_n hx hb dX12_shortestTo_75 rfl (lv_at hl 3 rfl) ?_
              refine hw_get hx hb fg_26_11 hK v30 rfl dX12_shortestTo_76 ?_
              refine lv_iload hx hb dX12_shortestTo_79 (lv_at hl 0 rfl) ?_
              obtain ⟨f59, v60⟩ := hH.a48 (hw_RM_8 R31)
              refine hw_iald hx hb hK v60 (hw_in (by omega) (by omega)) dX12_shortestTo_81 ?_
              refine lv_topi (fun x62 e63 => ?_)
              refine lv_aload_n hx hb dX12_shortestTo_82 rfl (lv_at hl 3 rfl) ?_
              refine hw_get hx hb fg_26_11 hK v30 rfl dX12_shortestTo_83 ?_
              refine lv_iload_n hx hb dX12_shortestTo_86 rfl (lv_at hl 5 rfl) ?_
              obtain ⟨f64, v65⟩ := hH.a48 (hw_RM_8 R31)
              refine hw_iald hx hb hK v65 (hw_in (by omega) (by omega)) dX12_shortestTo_87 ?_
              refine lv_topi (fun x67 e68 => ?_)
              refine hw_cR (va_runS (As := [.int x62, .int x67]) (rest := [.int x57]) ⟨hx, hb, hml, hown, hts⟩ (k_X12_apart l D G x62 x67 _) (va_cwS 2 hts gX12_shortestTo_X12_apart rfl rfl rfl (by decide +kernel) ⟨Nat.le_of_ble_eq_true rfl, Nat.le_of_ble_eq_true rfl⟩) (hw_pS hH hK hST hS (by decide) (fun _ h => Or.inl h) trivial) rfl rfl hl.1 rfl (lv_room (Nat.le_of_ble_eq_true rfl)) dX12_shortestTo_88 ⟨Nat.le_of_ble_eq_true rfl, Nat.le_of_ble_eq_true rfl⟩) (fun v hp => ?_)
              obtain ⟨x69, rfl⟩ := hp
              refine lv_iadd hx hb dX12_shortestTo_91 ?_
              refine lv_topi (fun x70 e71 => ?_)
              refine lv_iconst (v := 2) hx hb dX12_shortestTo_92 (by decide) ?_
              refine lv_iadd hx hb dX12_shortestTo_93 ?_
              refine lv_topi (fun x72 e73 => ?_)
              refine lv_goto (tgt := 100) hx hb dX12_shortestTo_94 (by decide) ?_
              refine lv_istore (lv' := [(7, .int x72), (6, .int y6_11), (5, .int y5_12), (4, .int x6), (0, .ref h0), (1, .int p1), (2, .int p2), (3, .int p3)]) hx hb dX12_shortestTo_100 hl (by decide) rfl (fun ls hl => ?_)
              refine lv_iload hx hb dX12_shortestTo_102 (lv_at hl 0 rfl) ?_
              refine lv_iload hx hb dX12_shortestTo_104 (lv_at hl 2 rfl) ?_
              refine lv_icmp_ge (tgt := 114) hx hb dX12_shortestTo_106 (by decide) (fun c74 => ?_) (fun c74 => ?_)
              · have b75 : y5_12.toInt ≤ x72.toInt := hw_ile c74
                refine lv_iload hx hb dX12_shortestTo_114 (lv_at hl 2 rfl) ?_
                refine lv_istore (lv' := [(5, .int y5_12), (7, .int x72), (6, .int y6_11), (4, .int x6), (0, .ref h0), (1, .int p1), (2, .int p2), (3, .int p3)]) hx hb dX12_shortestTo_116 hl (by decide) rfl (fun ls hl => ?_)
                obtain ⟨x76, e77⟩ : ∃ y : Int32, y = y6_11 + 1 := ⟨_, rfl⟩
                refine lv_iinc (v := x76) (lv' := [(6, .int x76), (5, .int y5_12), (7, .int x72), (4, .int x6), (0, .ref h0), (1, .int p1), (2, .int p2), (3, .int p3)]) hx hb dX12_shortestTo_118 hl (k := 2) rfl (by rw [e77]; rfl) (by decide) rfl (fun ls hl => ?_)
                have t78 : x76.toInt = y6_11.toInt + 1 := by rw [e77]; exact hw_add rfl rfl (by omega) (by omega)
                refine lv_goto (tgt := 43) hx hb dX12_shortestTo_121 (by decide) ?_
                exact ih43 x76 y5_12 (by first | omega | omega) ⟨by first | decide | omega, by first | decide | omega⟩ _ (lv_sub hl [0, 1, 3, 4, 5, 6, 7] rfl)
              · have b79 : x72.toInt < y5_12.toInt := hw_inle c74
                refine lv_iload hx hb dX12_shortestTo_109 (lv_at hl 0 rfl) ?_
                refine lv_goto (tgt := 116) hx hb dX12_shortestTo_111 (by decide) ?_
                refine lv_istore (lv' := [(5, .int x72), (7, .int x72), (6, .int y6_11), (4, .int x6), (0, .ref h0), (1, .int p1), (2, .int p2), (3, .int p3)]) hx hb dX12_shortestTo_116 hl (by decide) rfl (fun ls hl => ?_)
                obtain ⟨x80, e81⟩ : ∃ y : Int32, y = y6_11 + 1 := ⟨_, rfl⟩
                refine lv_iinc (v := x80) (lv' := [(6, .int x80), (5, .int x72), (7, .int x72), (4, .int x6), (0, .ref h0), (1, .int p1), (2, .int p2), (3, .int p3)]) hx hb dX12_shortestTo_118 hl (k := 2) rfl (by rw [e81]; rfl) (by decide) rfl (fun ls hl => ?_)
                have t82 : x80.toInt = y6_11.toInt + 1 := by rw [e81]; exact hw_add rfl rfl (by omega) (by omega)
                refine lv_goto (tgt := 43) hx hb dX12_shortestTo_121 (by decide) ?_
                exact ih43 x80 x72 (by first | omega | omega) ⟨by first | decide | omega, by first | decide | omega⟩ _ (lv_sub hl [0, 1, 3, 4, 5, 6, 7] rfl)
          · refine lv_if_eq (tgt := 97) hx hb dX12_shortestTo_59 (by decide) (fun c83 => ?_) (fun c83 => ?_)
            · refine lv_ldcw (v := 99999) hx hb hown (hts (.constant RX12 279 (99999)) (by decide +kernel)) dX12_shortestTo_97 ?_
              refine lv_istore (lv' := [(7, .int 99999), (6, .int y6_11), (5, .int y5_12), (4, .int x6), (0, .ref h0), (1, .int p1), (2, .int p2), (3, .int p3)]) hx hb dX12_shortestTo_100 hl (by decide) rfl (fun ls hl => ?_)
              refine lv_iload hx hb dX12_shortestTo_102 (lv_at hl 0 rfl) ?_
              refine lv_iload hx hb dX12_shortestTo_104 (lv_at hl 2 rfl) ?_
              refine lv_icmp_ge (tgt := 114) hx hb dX12_shortestTo_106 (by decide) (fun c84 => ?_) (fun c84 => ?_)
              · have b85 : y5_12.toInt ≤ 99999 := hw_ile c84
                refine lv_iload hx hb dX12_shortestTo_114 (lv_at hl 2 rfl) ?_
                refine lv_istore (lv' := [(5, .int y5_12), (7, .int 99999), (6, .int y6_11), (4, .int x6), (0, .ref h0), (1, .int p1), (2, .int p2), (3, .int p3)]) hx hb dX12_shortestTo_116 hl (by decide) rfl (fun ls hl => ?_)
                obtain ⟨x86, e87⟩ : ∃ y : Int32, y = y6_11 + 1 := ⟨_, rfl⟩
                refine lv_iinc (v := x86) (lv' := [(6, .int x86), (5, .int y5_12), (7, .int 99999), (4, .int x6), (0, .ref h0), (1, .int p1), (2, .int p2), (3, .int p3)]) hx hb dX12_shortestTo_118 hl (k := 2) rfl (by rw [e87]; rfl) (by decide) rfl (fun ls hl => ?_)
                have t88 : x86.toInt = y6_11.toInt + 1 := by rw [e87]; exact hw_add rfl rfl (by omega) (by omega)
                refine lv_goto (tgt := 43) hx hb dX12_shortestTo_121 (by decide) ?_
                exact ih43 x86 y5_12 (by first | omega | omega) ⟨by first | decide | omega, by first | decide | omega⟩ _ (lv_sub hl [0, 1, 3, 4, 5, 6, 7] rfl)
              · have b89 : 99999 < y5_12.toInt := hw_inle c84
                refine lv_iload hx hb dX12_shortestTo_109 (lv_at hl 0 rfl) ?_
                refine lv_goto (tgt := 116) hx hb dX12_shortestTo_111 (by decide) ?_
                refine lv_istore (lv' := [(5, .int 99999), (7, .int 99999), (6, .int y6_11), (4, .int x6), (0, .ref h0), (1, .int p1), (2, .int p2), (3, .int p3)]) hx hb dX12_shortestTo_116 hl (by decide) rfl (fun ls hl => ?_)
                obtain ⟨x90, e91⟩ : ∃ y : Int32, y = y6_11 + 1 := ⟨_, rfl⟩
                refine lv_iinc (v := x90) (lv' := [(6, .int x90), (5, .int 99999), (7, .int 99999), (4, .int x6), (0, .ref h0), (1, .int p1), (2, .int p2), (3, .int p3)]) hx hb dX12_shortestTo_118 hl (k := 2) rfl (by rw [e91]; rfl) (by decide) rfl (fun ls hl => ?_)
                have t92 : x90.toInt = y6_11.toInt + 1 := by rw [e91]; exact hw_add rfl rfl (by omega) (by omega)
                refine lv_goto (tgt := 43) hx hb dX12_shortestTo_121 (by decide) ?_
                exact ih43 x90 99999 (by first | omega | omega) ⟨by first | decide | omega, by first | decide | omega⟩ _ (lv_sub hl [0, 1, 3, 4, 5, 6, 7] rfl)
            · exact absurd c83 (by decide)
    exact L43 _ 0 99999 (Nat.lt_succ_self _) ⟨by first | decide | omega, by first | decide | omega⟩ _ (lv_sub hl [0, 1, 2, 3, 4, 5, 6] rfl)
  · have b93 : x6.toInt = 0 := hw_ieq c9
    refine lv_aload_n hx hb dX12_shortestTo_14 rfl (lv_at hl 1 rfl) ?_
    obtain ⟨r94, ud_95, ky_96, lo_97, wk_98, dk_99, ln_100, sm_101, fi_102, be_103, rk_104, rl_105, rw_106, cl_107, dg_108, v109, R110, g111, g112, g113, g114, g115, g116, g117, g118, g119, g120, g121, g122⟩ := hH.oM G0
    refine hw_get hx hb fg_7_11 hK v109 rfl dX12_shortestTo_15 ?_
    refine lv_bipush (v := 17) hx hb dX12_shortestTo_18 (by decide) ?_
    refine lv_iload_n hx hb dX12_shortestTo_20 rfl (lv_at hl 4 rfl) ?_
    refine lv_iadd hx hb dX12_shortestTo_21 ?_
    refine lv_topi (fun x123 e124 => ?_)
    have t125 : x123.toInt = 17 + p3.toInt := by rw [e124]; exact hw_add rfl rfl (by omega) (by omega)
    obtain ⟨f126, v127⟩ := hH.a40 (hw_RM_0 R110)
    refine hw_iald hx hb hK v127 (hw_in (by omega) (by omega)) dX12_shortestTo_22 ?_
    refine lv_topi (fun x129 e130 => ?_)
    refine lv_aload_n hx hb dX12_shortestTo_23 rfl (lv_at hl 1 rfl) ?_
    refine hw_get hx hb fg_26_11 hK v109 rfl dX12_shortestTo_24 ?_
    refine lv_iload_n hx hb dX12_shortestTo_27 rfl (lv_at hl 3 rfl) ?_
    obtain ⟨f131, v132⟩ := hH.a48 (hw_RM_8 R110)
    refine hw_iald hx hb hK v132 (hw_in (by omega) (by omega)) dX12_shortestTo_28 ?_
    refine lv_topi (fun x134 e135 => ?_)
    refine hw_cR (va_runS (As := [.int x129, .int x134]) (rest := []) ⟨hx, hb, hml, hown, hts⟩ (k_X12_apart l D G x129 x134 _) (va_cwS 2 hts gX12_shortestTo_X12_apart rfl rfl rfl (by decide +kernel) ⟨Nat.le_of_ble_eq_true rfl, Nat.le_of_ble_eq_true rfl⟩) (hw_pS hH hK hST hS (by decide) (fun _ h => Or.inl h) trivial) rfl rfl hl.1 rfl (lv_room (Nat.le_of_ble_eq_true rfl)) dX12_shortestTo_29 ⟨Nat.le_of_ble_eq_true rfl, Nat.le_of_ble_eq_true rfl⟩) (fun v hp => ?_)
    obtain ⟨x136, rfl⟩ := hp
    refine lv_iconst (v := 2) hx hb dX12_shortestTo_32 (by decide) ?_
    refine lv_iadd hx hb dX12_shortestTo_33 ?_
    refine lv_topi (fun x137 e138 => ?_)
    exact hw_iretR (v := x137) hx hb hr hlocks hQ rfl (⟨x137, rfl⟩) dX12_shortestTo_34

set_option maxHeartbeats 4000000 in
set_option maxRecDepth 100000 in
theorem k_X12_layAlone (l : Launch) (D : hw_D) (G : Nat → Nat) (h0 : Nat) (p1 : Int32) (sz : Nat) (G0 : G h0 = 9) (h1x : 0 ≤ p1.toInt ∧ p1.toInt < 3) : Met l yX12_layAlone wsX12_layAlone ({ frames := 2, cells := 0, slots := 0, locals := 50 } : Room) (hw_PC D G [.ref h0, .int p1] sz (fun H => True)) (hw_QM (fun v H => v = none ∧ hw_HT D G H) (hw_AW G [77, 78] sz)) 0 0 (hw_AW G [77, 78] sz) := by
  refine hw_met (cc := cX12_layAlone) (maxL := 5) (ret := none) (plainFor_of_name (by decide)) rfl (Nat.le_of_ble_eq_true rfl) ?_
  intro p e s m args below meth c QQ ls hsz hx hb hml hr hts hown hlocks hnm hH hK hST hF hQ hl
  subst hsz
  have hS : va_S (hw_AW G [77, 78] s.heap.size) s.heap s.heap [] := va_S.rf
  have hl : lv_has ls 5 [(0, .ref h0), (1, .int p1)] := hl
  have u_11 : ∀ w ∈ u_ws RX12 TX12 45, w.before args s = true := fun w hw => hts w ((by decide +kernel : ∀ w ∈ u_ws RX12 TX12 45, w ∈ wsX12_layAlone) w hw)
  have fg_87_11 : hw_FG s args m 87 11 38 := ⟨RX12, "WardWalkersModel", RX12, TX12, 45, u_11, hown, rfl, by decide, (hts (.fieldLink RX12 87 "WardWalkersModel" "alone" "[I") (by decide +kernel)), (fun _ h9 => h9)⟩
  have fg_145_11 : hw_FG s args m 145 11 7 := ⟨RX12, "WardWalkersModel", RX12, TX12, 45, u_11, hown, rfl, by decide, (hts (.fieldLink RX12 145 "WardWalkersModel" "locks" "I") (by decide +kernel)), (fun _ h9 => h9)⟩
  have fg_84_11 : hw_FG s args m 84 11 37 := ⟨RX12, "WardWalkersModel", RX12, TX12, 45, u_11, hown, rfl, by decide, (hts (.fieldLink RX12 84 "WardWalkersModel" "ways" "[I") (by decide +kernel)), (fun _ h9 => h9)⟩
  have fg_7_11 : hw_FG s args m 7 11 0 := ⟨RX12, "WardWalkersModel", RX12, TX12, 45, u_11, hown, rfl, by decide, (hts (.fieldLink RX12 7 "WardWalkersModel" "row" "[I") (by decide +kernel)), (fun _ h9 => h9)⟩
  refine lv_aload_n hx hb dX12_layAlone_0 rfl (lv_at hl 0 rfl) ?_
  obtain ⟨r1, ud_2, ky_3, lo_4, wk_5, dk_6, ln_7, sm_8, fi_9, be_10, rk_11, rl_12, rw_13, cl_14, dg_15, v16, R17, g18, g19, g20, g21, g22, g23, g24, g25, g26, g27, g28, g29⟩ := hH.oM G0
  refine hw_get hx hb fg_87_11 hK v16 rfl dX12_layAlone_1 ?_
  refine lv_iconst (v := 0) hx hb dX12_layAlone_4 (by decide) ?_
  refine lv_iconst (v := 0) hx hb dX12_layAlone_5 (by decide) ?_
  obtain ⟨f30, v31⟩ := hH.a78 (hw_RM_38 R17)
  refine hw_iast hx hb hK hH v31 (hw_in (x := 0) (by decide) (by decide)) (fun _ => by rw [(hw_RM_38 R17)]; exact ⟨_, rfl⟩) hS (hw_AWi (hw_RM_38 R17) (by decide)) dX12_layAlone_6 (fun H locs hH v31 oq hz hS => ?_)
  have v16 := va_at.kept v16 (oq _ (hw_ne G0 (hw_RM_38 R17) (by decide)))
  refine lv_iconst (v := 1) hx hb dX12_layAlone_7 (by decide) ?_
  refine lv_istore_n (lv' := [(2, .int 1), (0, .ref h0), (1, .int p1)]) hx hb dX12_layAlone_8 rfl hl (by decide) rfl (fun ls hl => ?_)
  have L9 : ∀ (n35 : Nat) (y2_33 : Int32) (hm : (128 - y2_33.toInt).toNat < n35) (g34 : 1 ≤ y2_33.toInt ∧ y2_33.toInt ≤ 128) (H : Heap) (locs : List Loc) (hH : hw_HT D G H) (hS : va_S (hw_AW G [77, 78] s.heap.size) s.heap H locs) (ls : Array Slot) (hl : lv_has ls 5 [(2, .int y2_33), (0, .ref h0), (1, .int p1)]), W p l e ({ frames := 2, cells := 0, slots := 0, locals := 50 } : Room) s m args below meth c H locs 0 0 QQ (F0 m 9 ls []) := by
    intro n35
    induction n35 with
    | zero => intro y2_33 hm; exact absurd hm (Nat.not_lt_zero _)
    | succ n35 ih9 =>
      intro y2_33 hm g34 H locs hH hS ls hl
      refine lv_iload_n hx hb dX12_layAlone_9 rfl (lv_at hl 0 rfl) ?_
      refine lv_iconst (v := 1) hx hb dX12_layAlone_10 (by decide) ?_
      refine lv_aload_n hx hb dX12_layAlone_11 rfl (lv_at hl 1 rfl) ?_
      obtain ⟨r36, ud_37, ky_38, lo_39, wk_40, dk_41, ln_42, sm_43, fi_44, be_45, rk_46, rl_47, rw_48, cl_49, dg_50, v51, R52, g53, g54, g55, g56, g57, g58, g59, g60, g61, g62, g63, g64⟩ := hH.oM G0
      refine hw_get hx hb fg_145_11 hK v51 rfl dX12_layAlone_12 ?_
      refine lv_ishl hx hb dX12_layAlone_15 ?_
      refine lv_topi (fun x65 e66 => ?_)
      have t67 : 1 ≤ x65.toInt ∧ x65.toInt ≤ 128 := by rw [e66]; exact hw_sh1b 7 (by decide) (by first | decide | omega) (by first | decide | omega)
      refine lv_icmp_ge (tgt := 133) hx hb dX12_layAlone_16 (by decide) (fun c68 => ?_) (fun c68 => ?_)
      · have b69 : x65.toInt ≤ y2_33.toInt := hw_ile c68
        exact hw_vretM hx hb hr hlocks hQ hS (⟨rfl, hH⟩) dX12_layAlone_133
      · have b70 : y2_33.toInt < x65.toInt := hw_inle c68
        refine lv_aload_n hx hb dX12_layAlone_19 rfl (lv_at hl 1 rfl) ?_
        refine hw_get hx hb fg_87_11 hK v51 rfl dX12_layAlone_20 ?_
        refine lv_iload_n hx hb dX12_layAlone_23 rfl (lv_at hl 0 rfl) ?_
        refine lv_ldcw (v := 99999) hx hb hown (hts (.constant RX12 279 (99999)) (by decide +kernel)) dX12_layAlone_24 ?_
        obtain ⟨f71, v72⟩ := hH.a78 (hw_RM_38 R52)
        refine hw_iast hx hb hK hH v72 (hw_in (by omega) (by omega)) (fun _ => by rw [(hw_RM_38 R52)]; exact ⟨_, rfl⟩) hS (hw_AWi (hw_RM_38 R52) (by decide)) dX12_layAlone_27 (fun H locs hH v72 oq hz hS => ?_)
        have v51 := va_at.kept v51 (oq _ (hw_ne G0 (hw_RM_38 R52) (by decide)))
        refine lv_iconst (v := 0) hx hb dX12_layAlone_28 (by decide) ?_
        refine lv_istore_n (lv' := [(3, .int 0), (2, .int y2_33), (0, .ref h0), (1, .int p1)]) hx hb dX12_layAlone_29 rfl hl (by decide) rfl (fun ls hl => ?_)
        have L30 : ∀ (n76 : Nat) (y3_74 : Int32) (hm : (7 - y3_74.toInt).toNat < n76) (g75 : 0 ≤ y3_74.toInt ∧ y3_74.toInt ≤ 7) (H : Heap) (locs : List Loc) (hH : hw_HT D G H) (hS : va_S (hw_AW G [77, 78] s.heap.size) s.heap H locs) (ls : Array Slot) (hl : lv_has ls 5 [(3, .int y3_74), (2, .int y2_33), (0, .ref h0), (1, .int p1)]), W p l e ({ frames := 2, cells := 0, slots := 0, locals := 50 } : Room) s m args below meth c H locs 0 0 QQ (F0 m 30 ls []) := by
          intro n76
          induction n76 with
          | zero => intro y3_74 hm; exact absurd hm (Nat.not_lt_zero _)
          | succ n76 ih30 =>
            intro y3_74 hm g75 H locs hH hS ls hl
            refine lv_iload_n hx hb dX12_layAlone_30 rfl (lv_at hl 0 rfl) ?_
            refine lv_aload_n hx hb dX12_layAlone_31 rfl (lv_at hl 2 rfl) ?_
            obtain ⟨r77, ud_78, ky_79, lo_80, wk_81, dk_82, ln_83, sm_84, fi_85, be_86, rk_87, rl_88, rw_89, cl_90, dg_91, v92, R93, g94, g95, g96, g97, g98, g99, g100, g101, g102, g103, g104, g105⟩ := hH.oM G0
            refine hw_get hx hb fg_145_11 hK v92 rfl dX12_layAlone_32 ?_
            refine lv_icmp_ge (tgt := 127) hx hb dX12_layAlone_35 (by decide) (fun c106 => ?_) (fun c106 => ?_)
            · have b107 : lo_80.toInt ≤ y3_74.toInt := hw_ile c106
              obtain ⟨x108, e109⟩ : ∃ y : Int32, y = y2_33 + 1 := ⟨_, rfl⟩
              refine lv_iinc (v := x108) (lv' := [(2, .int x108), (3, .int y3_74), (0, .ref h0), (1, .int p1)]) hx hb dX12_layAlone_127 hl (k := 1) rfl (by rw [e109]; rfl) (by decide) rfl (fun ls hl => ?_)
              have t110 : x108.toInt = y2_33.toInt + 1 := by rw [e109]; exact hw_add rfl rfl (by omega) (by omega)
              refine lv_goto (tgt := 9) hx hb dX12_layAlone_130 (by decide) ?_
              exact ih9 x108 (by first | omega | omega) ⟨by first | decide | omega, by first | decide | omega⟩ _ _ hH hS _ (lv_sub hl [0, 2, 3] rfl)
            · have b111 : y3_74.toInt < lo_80.toInt := hw_inle c106
              refine lv_aload_n hx hb dX12_layAlone_38 rfl (lv_at hl 2 rfl) ?_
              refine hw_get hx hb fg_84_11 hK v92 rfl dX12_layAlone_39 ?_
              refine lv_bipush (v := 7) hx hb dX12_layAlone_42 (by decide) ?_
              refine lv_iload_n hx hb dX12_layAlone_44 rfl (lv_at hl 1 rfl) ?_
              refine lv_imul hx hb dX12_layAlone_45 ?_
              refine lv_topi (fun x112 e113 => ?_)
              have t114 : x112.toInt = 7 * y2_33.toInt := by rw [e113]; exact hw_mul rfl rfl (by omega) (by omega)
              refine lv_iload_n hx hb dX12_layAlone_46 rfl (lv_at hl 0 rfl) ?_
              refine lv_iadd hx hb dX12_layAlone_47 ?_
              refine lv_topi (fun x115 e116 => ?_)
              have t117 : x115.toInt = x112.toInt + y3_74.toInt := by rw [e116]; exact hw_add rfl rfl (by omega) (by omega)
              refine lv_iload_n hx hb dX12_layAlone_48 rfl (lv_at hl 1 rfl) ?_
              refine lv_iload_n hx hb dX12_layAlone_49 rfl (lv_at hl 0 rfl) ?_
              refine hw_cR (va_runS (As := [.int y2_33, .int y3_74]) (rest := [.int x115, .ref (r77 37)]) ⟨hx, hb, hml, hown, hts⟩ (k_X12_has l D G y2_33 y3_74 _) (va_cwS 2 hts gX12_layAlone_X12_has rfl rfl rfl (by decide +kernel) ⟨Nat.le_of_ble_eq_true rfl, Nat.le_of_ble_eq_true rfl⟩) (hw_pS hH hK hST hS (by decide) (fun _ h => Or.inl h) trivial) rfl rfl hl.1 rfl (lv_room (Nat.le_of_ble_eq_true rfl)) dX12_layAlone_50 ⟨Nat.le_of_ble_eq_true rfl, Nat.le_of_ble_eq_true rfl⟩) (fun v hp => ?_)
              rcases hp with rfl | rfl
              · refine lv_if_eq (tgt := 66) hx hb dX12_layAlone_53 (by decide) (fun c118 => ?_) (fun c118 => ?_)
                · exact absurd c118 (by decide)
                · refine lv_aload_n hx hb dX12_layAlone_56 rfl (lv_at hl 2 rfl) ?_
                  refine lv_iload_n hx hb dX12_layAlone_57 rfl (lv_at hl 1 rfl) ?_
                  refine lv_iload_n hx hb dX12_layAlone_58 rfl (lv_at hl 0 rfl) ?_
                  refine lv_iload_n hx hb dX12_layAlone_59 rfl (lv_at hl 3 rfl) ?_
                  refine hw_cR (va_runV (As := [.int y2_33, .int y3_74, .int p1]) (rest := [.int x115, .ref (r77 37)]) ⟨hx, hb, hml, hown, hts⟩ (k_X12_shortestTo l D G h0 y2_33 y3_74 p1 _ G0 (by first | assumption | decide | omega) (by first | assumption | decide | omega) (by first | assumption | decide | omega)) (cwV 3 hts gX12_layAlone_X12_shortestTo rfl rfl rfl (by decide +kernel) ⟨Nat.le_of_ble_eq_true rfl, Nat.le_of_ble_eq_true rfl⟩) (hw_pV (hw_rc (q := (RX12, TX12, 45)) hK v92 rfl) hH hK hST hS (by decide) (fun _ h => Or.inl h) trivial) rfl rfl hl.1 rfl (lv_room (Nat.le_of_ble_eq_true rfl)) dX12_layAlone_60 ⟨Nat.le_of_ble_eq_true rfl, Nat.le_of_ble_eq_true rfl⟩) (fun v hp => ?_)
                  obtain ⟨x119, rfl⟩ := hp
                  refine lv_goto (tgt := 69) hx hb dX12_layAlone_63 (by decide) ?_
                  obtain ⟨f120, v121⟩ := hH.a77 (hw_RM_37 R93)
                  refine hw_iast hx hb hK hH v121 (hw_in (by omega) (by omega)) (fun _ => by rw [(hw_RM_37 R93)]; exact ⟨_, rfl⟩) hS (hw_AWi (hw_RM_37 R93) (by decide)) dX12_layAlone_69 (fun H locs hH v121 oq hz hS => ?_)
                  have v92 := va_at.kept v92 (oq _ (hw_ne G0 (hw_RM_37 R93) (by decide)))
                  refine lv_aload_n hx hb dX12_layAlone_70 rfl (lv_at hl 2 rfl) ?_
                  refine hw_get hx hb fg_7_11 hK v92 rfl dX12_layAlone_71 ?_
                  refine lv_bipush (v := 20) hx hb dX12_layAlone_74 (by decide) ?_
                  refine lv_iload_n hx hb dX12_layAlone_76 rfl (lv_at hl 3 rfl) ?_
                  refine lv_iadd hx hb dX12_layAlone_77 ?_
                  refine lv_topi (fun x123 e124 => ?_)
                  have t125 : x123.toInt = 20 + p1.toInt := by rw [e124]; exact hw_add rfl rfl (by omega) (by omega)
                  obtain ⟨f126, v127⟩ := hH.a40 (hw_RM_0 R93)
                  refine hw_iald hx hb hK v127 (hw_in (by omega) (by omega)) dX12_layAlone_78 ?_
                  refine lv_topi (fun x129 e130 => ?_)
                  refine lv_aload_n hx hb dX12_layAlone_79 rfl (lv_at hl 2 rfl) ?_
                  refine hw_get hx hb fg_84_11 hK v92 rfl dX12_layAlone_80 ?_
                  refine lv_bipush (v := 7) hx hb dX12_layAlone_83 (by decide) ?_
                  refine lv_iload_n hx hb dX12_layAlone_85 rfl (lv_at hl 1 rfl) ?_
                  refine lv_imul hx hb dX12_layAlone_86 ?_
                  refine lv_topi (fun x131 e132 => ?_)
                  have t133 : x131.toInt = 7 * y2_33.toInt := by rw [e132]; exact hw_mul rfl rfl (by omega) (by omega)
                  refine lv_iload_n hx hb dX12_layAlone_87 rfl (lv_at hl 0 rfl) ?_
                  refine lv_iadd hx hb dX12_layAlone_88 ?_
                  refine lv_topi (fun x134 e135 => ?_)
                  have t136 : x134.toInt = x131.toInt + y3_74.toInt := by rw [e135]; exact hw_add rfl rfl (by omega) (by omega)
                  obtain ⟨f137, v138⟩ := hH.a77 (hw_RM_37 R93)
                  refine hw_iald hx hb hK v138 (hw_in (by omega) (by omega)) dX12_layAlone_89 ?_
                  refine lv_topi (fun x140 e141 => ?_)
                  refine lv_iadd hx hb dX12_layAlone_90 ?_
                  refine lv_topi (fun x142 e143 => ?_)
                  refine lv_istore (lv' := [(4, .int x142), (3, .int y3_74), (2, .int y2_33), (0, .ref h0), (1, .int p1)]) hx hb dX12_layAlone_91 hl (by decide) rfl (fun ls hl => ?_)
                  refine lv_aload_n hx hb dX12_layAlone_93 rfl (lv_at hl 3 rfl) ?_
                  refine hw_get hx hb fg_87_11 hK v92 rfl dX12_layAlone_94 ?_
                  refine lv_iload_n hx hb dX12_layAlone_97 rfl (lv_at hl 2 rfl) ?_
                  refine lv_iload hx hb dX12_layAlone_98 (lv_at hl 0 rfl) ?_
                  refine lv_aload_n hx hb dX12_layAlone_100 rfl (lv_at hl 3 rfl) ?_
                  refine hw_get hx hb fg_87_11 hK v92 rfl dX12_layAlone_101 ?_
                  refine lv_iload_n hx hb dX12_layAlone_104 rfl (lv_at hl 2 rfl) ?_
                  obtain ⟨f144, v145⟩ := hH.a78 (hw_RM_38 R93)
                  refine hw_iald hx hb hK v145 (hw_in (by omega) (by omega)) dX12_layAlone_105 ?_
                  refine lv_topi (fun x147 e148 => ?_)
                  refine lv_icmp_ge (tgt := 114) hx hb dX12_layAlone_106 (by decide) (fun c149 => ?_) (fun c149 => ?_)
                  · have b150 : x147.toInt ≤ x142.toInt := hw_ile c149
                    refine lv_aload_n hx hb dX12_layAlone_114 rfl (lv_at hl 3 rfl) ?_
                    refine hw_get hx hb fg_87_11 hK v92 rfl dX12_layAlone_115 ?_
                    refine lv_iload_n hx hb dX12_layAlone_118 rfl (lv_at hl 2 rfl) ?_
                    obtain ⟨f151, v152⟩ := hH.a78 (hw_RM_38 R93)
                    refine hw_iald hx hb hK v152 (hw_in (by omega) (by omega)) dX12_layAlone_119 ?_
                    refine lv_topi (fun x154 e155 => ?_)
                    obtain ⟨f156, v157⟩ := hH.a78 (hw_RM_38 R93)
                    refine hw_iast hx hb hK hH v157 (hw_in (by omega) (by omega)) (fun _ => by rw [(hw_RM_38 R93)]; exact ⟨_, rfl⟩) hS (hw_AWi (hw_RM_38 R93) (by decide)) dX12_layAlone_120 (fun H locs hH v157 oq hz hS => ?_)
                    have v92 := va_at.kept v92 (oq _ (hw_ne G0 (hw_RM_38 R93) (by decide)))
                    obtain ⟨x159, e160⟩ : ∃ y : Int32, y = y3_74 + 1 := ⟨_, rfl⟩
                    refine lv_iinc (v := x159) (lv' := [(3, .int x159), (4, .int x142), (2, .int y2_33), (0, .ref h0), (1, .int p1)]) hx hb dX12_layAlone_121 hl (k := 1) rfl (by rw [e160]; rfl) (by decide) rfl (fun ls hl => ?_)
                    have t161 : x159.toInt = y3_74.toInt + 1 := by rw [e160]; exact hw_add rfl rfl (by omega) (by omega)
                    refine lv_goto (tgt := 30) hx hb dX12_layAlone_124 (by decide) ?_
                    exact ih30 x159 (by first | omega | omega) ⟨by first | decide | omega, by first | decide | omega⟩ _ _ hH hS _ (lv_sub hl [0, 2, 3, 4] rfl)
                  · have b162 : x142.toInt < x147.toInt := hw_inle c149
                    refine lv_iload hx hb dX12_layAlone_109 (lv_at hl 0 rfl) ?_
                    refine lv_goto (tgt := 120) hx hb dX12_layAlone_111 (by decide) ?_
                    obtain ⟨f163, v164⟩ := hH.a78 (hw_RM_38 R93)
                    refine hw_iast hx hb hK hH v164 (hw_in (by omega) (by omega)) (fun _ => by rw [(hw_RM_38 R93)]; exact ⟨_, rfl⟩) hS (hw_AWi (hw_RM_38 R93) (by decide)) dX12_layAlone_120 (fun H locs hH v164 oq hz hS => ?_)
                    have v92 := va_at.kept v92 (oq _ (hw_ne G0 (hw_RM_38 R93) (by decide)))
                    obtain ⟨x166, e167⟩ : ∃ y : Int32, y = y3_74 + 1 := ⟨_, rfl⟩
                    refine lv_iinc (v := x166) (lv' := [(3, .int x166), (4, .int x142), (2, .int y2_33), (0, .ref h0), (1, .int p1)]) hx hb dX12_layAlone_121 hl (k := 1) rfl (by rw [e167]; rfl) (by decide) rfl (fun ls hl => ?_)
                    have t168 : x166.toInt = y3_74.toInt + 1 := by rw [e167]; exact hw_add rfl rfl (by omega) (by omega)
                    refine lv_goto (tgt := 30) hx hb dX12_layAlone_124 (by decide) ?_
                    exact ih30 x166 (by first | omega | omega) ⟨by first | decide | omega, by first | decide | omega⟩ _ _ hH hS _ (lv_sub hl [0, 2, 3, 4] rfl)
              · refine lv_if_eq (tgt := 66) hx hb dX12_layAlone_53 (by decide) (fun c169 => ?_) (fun c169 => ?_)
                · refine lv_ldcw (v := 99999) hx hb hown (hts (.constant RX12 279 (99999)) (by decide +kernel)) dX12_layAlone_66 ?_
                  obtain ⟨f170, v171⟩ := hH.a77 (hw_RM_37 R93)
                  refine hw_iast hx hb hK hH v171 (hw_in (by omega) (by omega)) (fun _ => by rw [(hw_RM_37 R93)]; exact ⟨_, rfl⟩) hS (hw_AWi (hw_RM_37 R93) (by decide)) dX12_layAlone_69 (fun H locs hH v171 oq hz hS => ?_)
                  have v92 := va_at.kept v92 (oq _ (hw_ne G0 (hw_RM_37 R93) (by decide)))
                  refine lv_aload_n hx hb dX12_layAlone_70 rfl (lv_at hl 2 rfl) ?_
                  refine hw_get hx hb fg_7_11 hK v92 rfl dX12_layAlone_71 ?_
                  refine lv_bipush (v := 20) hx hb dX12_layAlone_74 (by decide) ?_
                  refine lv_iload_n hx hb dX12_layAlone_76 rfl (lv_at hl 3 rfl) ?_
                  refine lv_iadd hx hb dX12_layAlone_77 ?_
                  refine lv_topi (fun x173 e174 => ?_)
                  have t175 : x173.toInt = 20 + p1.toInt := by rw [e174]; exact hw_add rfl rfl (by omega) (by omega)
                  obtain ⟨f176, v177⟩ := hH.a40 (hw_RM_0 R93)
                  refine hw_iald hx hb hK v177 (hw_in (by omega) (by omega)) dX12_layAlone_78 ?_
                  refine lv_topi (fun x179 e180 => ?_)
                  refine lv_aload_n hx hb dX12_layAlone_79 rfl (lv_at hl 2 rfl) ?_
                  refine hw_get hx hb fg_84_11 hK v92 rfl dX12_layAlone_80 ?_
                  refine lv_bipush (v := 7) hx hb dX12_layAlone_83 (by decide) ?_
                  refine lv_iload_n hx hb dX12_layAlone_85 rfl (lv_at hl 1 rfl) ?_
                  refine lv_imul hx hb dX12_layAlone_86 ?_
                  refine lv_topi (fun x181 e182 => ?_)
                  have t183 : x181.toInt = 7 * y2_33.toInt := by rw [e182]; exact hw_mul rfl rfl (by omega) (by omega)
                  refine lv_iload_n hx hb dX12_layAlone_87 rfl (lv_at hl 0 rfl) ?_
                  refine lv_iadd hx hb dX12_layAlone_88 ?_
                  refine lv_topi (fun x184 e185 => ?_)
                  have t186 : x184.toInt = x181.toInt + y3_74.toInt := by rw [e185]; exact hw_add rfl rfl (by omega) (by omega)
                  obtain ⟨f187, v188⟩ := hH.a77 (hw_RM_37 R93)
                  refine hw_iald hx hb hK v188 (hw_in (by omega) (by omega)) dX12_layAlone_89 ?_
                  refine lv_topi (fun x190 e191 => ?_)
                  refine lv_iadd hx hb dX12_layAlone_90 ?_
                  refine lv_topi (fun x192 e193 => ?_)
                  refine lv_istore (lv' := [(4, .int x192), (3, .int y3_74), (2, .int y2_33), (0, .ref h0), (1, .int p1)]) hx hb dX12_layAlone_91 hl (by decide) rfl (fun ls hl => ?_)
                  refine lv_aload_n hx hb dX12_layAlone_93 rfl (lv_at hl 3 rfl) ?_
                  refine hw_get hx hb fg_87_11 hK v92 rfl dX12_layAlone_94 ?_
                  refine lv_iload_n hx hb dX12_layAlone_97 rfl (lv_at hl 2 rfl) ?_
                  refine lv_iload hx hb dX12_layAlone_98 (lv_at hl 0 rfl) ?_
                  refine lv_aload_n hx hb dX12_layAlone_100 rfl (lv_at hl 3 rfl) ?_
                  refine hw_get hx hb fg_87_11 hK v92 rfl dX12_layAlone_101 ?_
                  refine lv_iload_n hx hb dX12_layAlone_104 rfl (lv_at hl 2 rfl) ?_
                  obtain ⟨f194, v195⟩ := hH.a78 (hw_RM_38 R93)
                  refine hw_iald hx hb hK v195 (hw_in (by omega) (by omega)) dX12_layAlone_105 ?_
                  refine lv_topi (fun x197 e198 => ?_)
                  refine lv_icmp_ge (tgt := 114) hx hb dX12_layAlone_106 (by decide) (fun c199 => ?_) (fun c199 => ?_)
                  · have b200 : x197.toInt ≤ x192.toInt := hw_ile c199
                    refine lv_aload_n hx hb dX12_layAlone_114 rfl (lv_at hl 3 rfl) ?_
                    refine hw_get hx hb fg_87_11 hK v92 rfl dX12_layAlone_115 ?_
                    refine lv_iload_n hx hb dX12_layAlone_118 rfl (lv_at hl 2 rfl) ?_
                    obtain ⟨f201, v202⟩ := hH.a78 (hw_RM_38 R93)
                    refine hw_iald hx hb hK v202 (hw_in (by omega) (by omega)) dX12_layAlone_119 ?_
                    refine lv_topi (fun x204 e205 => ?_)
                    obtain ⟨f206, v207⟩ := hH.a78 (hw_RM_38 R93)
                    refine hw_iast hx hb hK hH v207 (hw_in (by omega) (by omega)) (fun _ => by rw [(hw_RM_38 R93)]; exact ⟨_, rfl⟩) hS (hw_AWi (hw_RM_38 R93) (by decide)) dX12_layAlone_120 (fun H locs hH v207 oq hz hS => ?_)
                    have v92 := va_at.kept v92 (oq _ (hw_ne G0 (hw_RM_38 R93) (by decide)))
                    obtain ⟨x209, e210⟩ : ∃ y : Int32, y = y3_74 + 1 := ⟨_, rfl⟩
                    refine lv_iinc (v := x209) (lv' := [(3, .int x209), (4, .int x192), (2, .int y2_33), (0, .ref h0), (1, .int p1)]) hx hb dX12_layAlone_121 hl (k := 1) rfl (by rw [e210]; rfl) (by decide) rfl (fun ls hl => ?_)
                    have t211 : x209.toInt = y3_74.toInt + 1 := by rw [e210]; exact hw_add rfl rfl (by omega) (by omega)
                    refine lv_goto (tgt := 30) hx hb dX12_layAlone_124 (by decide) ?_
                    exact ih30 x209 (by first | omega | omega) ⟨by first | decide | omega, by first | decide | omega⟩ _ _ hH hS _ (lv_sub hl [0, 2, 3, 4] rfl)
                  · have b212 : x192.toInt < x197.toInt := hw_inle c199
                    refine lv_iload hx hb dX12_layAlone_109 (lv_at hl 0 rfl) ?_
                    refine lv_goto (tgt := 120) hx hb dX12_layAlone_111 (by decide) ?_
                    obtain ⟨f213, v214⟩ := hH.a78 (hw_RM_38 R93)
                    refine hw_iast hx hb hK hH v214 (hw_in (by omega) (by omega)) (fun _ => by rw [(hw_RM_38 R93)]; exact ⟨_, rfl⟩) hS (hw_AWi (hw_RM_38 R93) (by decide)) dX12_layAlone_120 (fun H locs hH v214 oq hz hS => ?_)
                    have v92 := va_at.kept v92 (oq _ (hw_ne G0 (hw_RM_38 R93) (by decide)))
                    obtain ⟨x216, e217⟩ : ∃ y : Int32, y = y3_74 + 1 := ⟨_, rfl⟩
                    refine lv_iinc (v := x216) (lv' := [(3, .int x216), (4, .int x192), (2, .int y2_33), (0, .ref h0), (1, .int p1)]) hx hb dX12_layAlone_121 hl (k := 1) rfl (by rw [e217]; rfl) (by decide) rfl (fun ls hl => ?_)
                    have t218 : x216.toInt = y3_74.toInt + 1 := by rw [e217]; exact hw_add rfl rfl (by omega) (by omega)
                    refine lv_goto (tgt := 30) hx hb dX12_layAlone_124 (by decide) ?_
                    exact ih30 x216 (by first | omega | omega) ⟨by first | decide | omega, by first | decide | omega⟩ _ _ hH hS _ (lv_sub hl [0, 2, 3, 4] rfl)
                · exact absurd c169 (by decide)
        exact L30 _ 0 (Nat.lt_succ_self _) ⟨by first | decide | omega, by first | decide | omega⟩ _ _ hH hS _ (lv_sub hl [0, 1, 2, 3] rfl)
  exact L9 _ 1 (Nat.lt_succ_self _) ⟨by first | decide | omega, by first | decide | omega⟩ _ _ hH hS _ (lv_sub hl [0, 1, 2] rfl)

set_option maxHeartbeats 4000000 in
set_option maxRecDepth 100000 in
theorem k_X12_joinAlone (l : Launch) (D : hw_D) (G : Nat → Nat) (h0 : Nat) (sz : Nat) (G0 : G h0 = 9) : Met l yX12_joinAlone wsX12_joinAlone ({ frames := 0, cells := 0, slots := 0, locals := 0 } : Room) (hw_PC D G [.ref h0] sz (fun H => True)) (hw_QM (fun v H => v = none ∧ hw_HT D G H) (hw_AW G [79, 80] sz)) 0 0 (hw_AW G [79, 80] sz) := by
  refine hw_met (cc := cX12_joinAlone) (maxL := 5) (ret := none) (plainFor_of_name (by decide)) rfl (Nat.le_of_ble_eq_true rfl) ?_
  intro p e s m args below meth c QQ ls hsz hx hb hml hr hts hown hlocks hnm hH hK hST hF hQ hl
  subst hsz
  have hS : va_S (hw_AW G [79, 80] s.heap.size) s.heap s.heap [] := va_S.rf
  have hl : lv_has ls 5 [(0, .ref h0)] := hl
  have u_11 : ∀ w ∈ u_ws RX12 TX12 45, w.before args s = true := fun w hw => hts w ((by decide +kernel : ∀ w ∈ u_ws RX12 TX12 45, w ∈ wsX12_joinAlone) w hw)
  have fg_145_11 : hw_FG s args m 145 11 7 := ⟨RX12, "WardWalkersModel", RX12, TX12, 45, u_11, hown, rfl, by decide, (hts (.fieldLink RX12 145 "WardWalkersModel" "locks" "I") (by decide +kernel)), (fun _ h9 => h9)⟩
  have fg_90_11 : hw_FG s args m 90 11 39 := ⟨RX12, "WardWalkersModel", RX12, TX12, 45, u_11, hown, rfl, by decide, (hts (.fieldLink RX12 90 "WardWalkersModel" "together" "[I") (by decide +kernel)), (fun _ h9 => h9)⟩
  have fg_93_11 : hw_FG s args m 93 11 40 := ⟨RX12, "WardWalkersModel", RX12, TX12, 45, u_11, hown, rfl, by decide, (hts (.fieldLink RX12 93 "WardWalkersModel" "then" "[I") (by decide +kernel)), (fun _ h9 => h9)⟩
  have fg_87_11 : hw_FG s args m 87 11 38 := ⟨RX12, "WardWalkersModel", RX12, TX12, 45, u_11, hown, rfl, by decide, (hts (.fieldLink RX12 87 "WardWalkersModel" "alone" "[I") (by decide +kernel)), (fun _ h9 => h9)⟩
  refine lv_iconst (v := 0) hx hb dX12_joinAlone_0 (by decide) ?_
  refine lv_istore_n (lv' := [(1, .int 0), (0, .ref h0)]) hx hb dX12_joinAlone_1 rfl hl (by decide) rfl (fun ls hl => ?_)
  have L2 : ∀ (n3 : Nat) (y1_1 : Int32) (hm : (128 - y1_1.toInt).toNat < n3) (g2 : 0 ≤ y1_1.toInt ∧ y1_1.toInt ≤ 128) (H : Heap) (locs : List Loc) (hH : hw_HT D G H) (hS : va_S (hw_AW G [79, 80] s.heap.size) s.heap H locs) (ls : Array Slot) (hl : lv_has ls 5 [(1, .int y1_1), (0, .ref h0)]), W p l e ({ frames := 0, cells := 0, slots := 0, locals := 0 } : Room) s m args below meth c H locs 0 0 QQ (F0 m 2 ls []) := by
    intro n3
    induction n3 with
    | zero => intro y1_1 hm; exact absurd hm (Nat.not_lt_zero _)
    | succ n3 ih2 =>
      intro y1_1 hm g2 H locs hH hS ls hl
      refine lv_iload_n hx hb dX12_joinAlone_2 rfl (lv_at hl 0 rfl) ?_
      refine lv_iconst (v := 1) hx hb dX12_joinAlone_3 (by decide) ?_
      refine lv_aload_n hx hb dX12_joinAlone_4 rfl (lv_at hl 1 rfl) ?_
      obtain ⟨r4, ud_5, ky_6, lo_7, wk_8, dk_9, ln_10, sm_11, fi_12, be_13, rk_14, rl_15, rw_16, cl_17, dg_18, v19, R20, g21, g22, g23, g24, g25, g26, g27, g28, g29, g30, g31, g32⟩ := hH.oM G0
      refine hw_get hx hb fg_145_11 hK v19 rfl dX12_joinAlone_5 ?_
      refine lv_ishl hx hb dX12_joinAlone_8 ?_
      refine lv_topi (fun x33 e34 => ?_)
      have t35 : 1 ≤ x33.toInt ∧ x33.toInt ≤ 128 := by rw [e34]; exact hw_sh1b 7 (by decide) (by first | decide | omega) (by first | decide | omega)
      refine lv_icmp_ge (tgt := 103) hx hb dX12_joinAlone_9 (by decide) (fun c36 => ?_) (fun c36 => ?_)
      · have b37 : x33.toInt ≤ y1_1.toInt := hw_ile c36
        refine lv_iconst (v := 0) hx hb dX12_joinAlone_103 (by decide) ?_
        refine lv_istore_n (lv' := [(1, .int 0), (0, .ref h0)]) hx hb dX12_joinAlone_104 rfl hl (by decide) rfl (fun ls hl => ?_)
        have L105 : ∀ (n40 : Nat) (y1_38 : Int32) (hm : (128 - y1_38.toInt).toNat < n40) (g39 : 0 ≤ y1_38.toInt ∧ y1_38.toInt ≤ 128) (H : Heap) (locs : List Loc) (hH : hw_HT D G H) (hS : va_S (hw_AW G [79, 80] s.heap.size) s.heap H locs) (ls : Array Slot) (hl : lv_has ls 5 [(1, .int y1_38), (0, .ref h0)]), W p l e ({ frames := 0, cells := 0, slots := 0, locals := 0 } : Room) s m args below meth c H locs 0 0 QQ (F0 m 105 ls []) := by
          intro n40
          induction n40 with
          | zero => intro y1_38 hm; exact absurd hm (Nat.not_lt_zero _)
          | succ n40 ih105 =>
            intro y1_38 hm g39 H locs hH hS ls hl
            refine lv_iload_n hx hb dX12_joinAlone_105 rfl (lv_at hl 0 rfl) ?_
            refine lv_iconst (v := 1) hx hb dX12_joinAlone_106 (by decide) ?_
            refine lv_aload_n hx hb dX12_joinAlone_107 rfl (lv_at hl 1 rfl) ?_
            obtain ⟨r41, ud_42, ky_43, lo_44, wk_45, dk_46, ln_47, sm_48, fi_49, be_50, rk_51, rl_52, rw_53, cl_54, dg_55, v56, R57, g58, g59, g60, g61, g62, g63, g64, g65, g66, g67, g68, g69⟩ := hH.oM G0
            refine hw_get hx hb fg_145_11 hK v56 rfl dX12_joinAlone_108 ?_
            refine lv_ishl hx hb dX12_joinAlone_111 ?_
            refine lv_topi (fun x70 e71 => ?_)
            have t72 : 1 ≤ x70.toInt ∧ x70.toInt ≤ 128 := by rw [e71]; exact hw_sh1b 7 (by decide) (by first | decide | omega) (by first | decide | omega)
            refine lv_icmp_ge (tgt := 133) hx hb dX12_joinAlone_112 (by decide) (fun c73 => ?_) (fun c73 => ?_)
            · have b74 : x70.toInt ≤ y1_38.toInt := hw_ile c73
              exact hw_vretM hx hb hr hlocks hQ hS (⟨rfl, hH⟩) dX12_joinAlone_133
            · have b75 : y1_38.toInt < x70.toInt := hw_inle c73
              refine lv_aload_n hx hb dX12_joinAlone_115 rfl (lv_at hl 1 rfl) ?_
              refine hw_get hx hb fg_90_11 hK v56 rfl dX12_joinAlone_116 ?_
              refine lv_iload_n hx hb dX12_joinAlone_119 rfl (lv_at hl 0 rfl) ?_
              refine lv_aload_n hx hb dX12_joinAlone_120 rfl (lv_at hl 1 rfl) ?_
              refine hw_get hx hb fg_93_11 hK v56 rfl dX12_joinAlone_121 ?_
              refine lv_iload_n hx hb dX12_joinAlone_124 rfl (lv_at hl 0 rfl) ?_
              obtain ⟨f76, v77⟩ := hH.a80 (hw_RM_40 R57)
              refine hw_iald hx hb hK v77 (hw_in (by omega) (by omega)) dX12_joinAlone_125 ?_
              refine lv_topi (fun x79 e80 => ?_)
              obtain ⟨f81, v82⟩ := hH.a79 (hw_RM_39 R57)
              refine hw_iast hx hb hK hH v82 (hw_in (by omega) (by omega)) (fun _ => by rw [(hw_RM_39 R57)]; exact ⟨_, rfl⟩) hS (hw_AWi (hw_RM_39 R57) (by decide)) dX12_joinAlone_126 (fun H locs hH v82 oq hz hS => ?_)
              have v56 := va_at.kept v56 (oq _ (hw_ne G0 (hw_RM_39 R57) (by decide)))
              obtain ⟨x84, e85⟩ : ∃ y : Int32, y = y1_38 + 1 := ⟨_, rfl⟩
              refine lv_iinc (v := x84) (lv' := [(1, .int x84), (0, .ref h0)]) hx hb dX12_joinAlone_127 hl (k := 0) rfl (by rw [e85]; rfl) (by decide) rfl (fun ls hl => ?_)
              have t86 : x84.toInt = y1_38.toInt + 1 := by rw [e85]; exact hw_add rfl rfl (by omega) (by omega)
              refine lv_goto (tgt := 105) hx hb dX12_joinAlone_130 (by decide) ?_
              exact ih105 x84 (by first | omega | omega) ⟨by first | decide | omega, by first | decide | omega⟩ _ _ hH hS _ (lv_sub hl [0, 1] rfl)
        exact L105 _ 0 (Nat.lt_succ_self _) ⟨by first | decide | omega, by first | decide | omega⟩ _ _ hH hS _ (lv_sub hl [0, 1] rfl)
      · have b87 : y1_1.toInt < x33.toInt := hw_inle c36
        refine lv_ldcw (v := 99999) hx hb hown (hts (.constant RX12 279 (99999)) (by decide +kernel)) dX12_joinAlone_12 ?_
        refine lv_istore_n (lv' := [(2, .int 99999), (1, .int y1_1), (0, .ref h0)]) hx hb dX12_joinAlone_15 rfl hl (by decide) rfl (fun ls hl => ?_)
        refine lv_iconst (v := 0) hx hb dX12_joinAlone_16 (by decide) ?_
        refine lv_istore_n (lv' := [(3, .int 0), (2, .int 99999), (1, .int y1_1), (0, .ref h0)]) hx hb dX12_joinAlone_17 rfl hl (by decide) rfl (fun ls hl => ?_)
        have L18 : ∀ (n91 : Nat) (y3_88 : Int32) (y2_89 : Int32) (hm : (128 - y3_88.toInt).toNat < n91) (g90 : 0 ≤ y3_88.toInt ∧ y3_88.toInt ≤ 128) (H : Heap) (locs : List Loc) (hH : hw_HT D G H) (hS : va_S (hw_AW G [79, 80] s.heap.size) s.heap H locs) (ls : Array Slot) (hl : lv_has ls 5 [(3, .int y3_88), (2, .int y2_89), (1, .int y1_1), (0, .ref h0)]), W p l e ({ frames := 0, cells := 0, slots := 0, locals := 0 } : Room) s m args below meth c H locs 0 0 QQ (F0 m 18 ls []) := by
          intro n91
          induction n91 with
          | zero => intro y3_88 y2_89 hm; exact absurd hm (Nat.not_lt_zero _)
          | succ n91 ih18 =>
            intro y3_88 y2_89 hm g90 H locs hH hS ls hl
            refine lv_iload_n hx hb dX12_joinAlone_18 rfl (lv_at hl 0 rfl) ?_
            refine lv_iload_n hx hb dX12_joinAlone_19 rfl (lv_at hl 2 rfl) ?_
            refine lv_icmp_gt (tgt := 90) hx hb dX12_joinAlone_20 (by decide) (fun c92 => ?_) (fun c92 => ?_)
            · have b93 : y1_1.toInt < y3_88.toInt := hw_ilt c92
              refine lv_aload_n hx hb dX12_joinAlone_90 rfl (lv_at hl 3 rfl) ?_
              obtain ⟨r94, ud_95, ky_96, lo_97, wk_98, dk_99, ln_100, sm_101, fi_102, be_103, rk_104, rl_105, rw_106, cl_107, dg_108, v109, R110, g111, g112, g113, g114, g115, g116, g117, g118, g119, g120, g121, g122⟩ := hH.oM G0
              refine hw_get hx hb fg_93_11 hK v109 rfl dX12_joinAlone_91 ?_
              refine lv_iload_n hx hb dX12_joinAlone_94 rfl (lv_at hl 2 rfl) ?_
              refine lv_iload_n hx hb dX12_joinAlone_95 rfl (lv_at hl 1 rfl) ?_
              obtain ⟨f123, v124⟩ := hH.a80 (hw_RM_40 R110)
              refine hw_iast hx hb hK hH v124 (hw_in (by omega) (by omega)) (fun _ => by rw [(hw_RM_40 R110)]; exact ⟨_, rfl⟩) hS (hw_AWi (hw_RM_40 R110) (by decide)) dX12_joinAlone_96 (fun H locs hH v124 oq hz hS => ?_)
              have v109 := va_at.kept v109 (oq _ (hw_ne G0 (hw_RM_40 R110) (by decide)))
              obtain ⟨x126, e127⟩ : ∃ y : Int32, y = y1_1 + 1 := ⟨_, rfl⟩
              refine lv_iinc (v := x126) (lv' := [(1, .int x126), (3, .int y3_88), (2, .int y2_89), (0, .ref h0)]) hx hb dX12_joinAlone_97 hl (k := 2) rfl (by rw [e127]; rfl) (by decide) rfl (fun ls hl => ?_)
              have t128 : x126.toInt = y1_1.toInt + 1 := by rw [e127]; exact hw_add rfl rfl (by omega) (by omega)
              refine lv_goto (tgt := 2) hx hb dX12_joinAlone_100 (by decide) ?_
              exact ih2 x126 (by first | omega | omega) ⟨by first | decide | omega, by first | decide | omega⟩ _ _ hH hS _ (lv_sub hl [0, 3] rfl)
            · have b129 : y3_88.toInt ≤ y1_1.toInt := hw_inlt c92
              refine lv_iload_n hx hb dX12_joinAlone_23 rfl (lv_at hl 0 rfl) ?_
              refine lv_iload_n hx hb dX12_joinAlone_24 rfl (lv_at hl 2 rfl) ?_
              refine lv_iconst (v := (-1)) hx hb dX12_joinAlone_25 (by decide) ?_
              refine lv_ixor hx hb dX12_joinAlone_26 ?_
              refine lv_topi (fun x130 e131 => ?_)
              refine lv_iand hx hb dX12_joinAlone_27 ?_
              refine lv_topi (fun x132 e133 => ?_)
              have t134 : 0 ≤ x132.toInt ∧ x132.toInt ≤ y3_88.toInt := by rw [e133]; exact hw_and2 (by first | decide | omega)
              refine lv_if_ne (tgt := 84) hx hb dX12_joinAlone_28 (by decide) (fun c135 => ?_) (fun c135 => ?_)
              · have b136 : x132.toInt ≠ 0 := hw_ine c135
                obtain ⟨x137, e138⟩ : ∃ y : Int32, y = y3_88 + 1 := ⟨_, rfl⟩
                refine lv_iinc (v := x137) (lv' := [(3, .int x137), (2, .int y2_89), (1, .int y1_1), (0, .ref h0)]) hx hb dX12_joinAlone_84 hl (k := 0) rfl (by rw [e138]; rfl) (by decide) rfl (fun ls hl => ?_)
                have t139 : x137.toInt = y3_88.toInt + 1 := by rw [e138]; exact hw_add rfl rfl (by omega) (by omega)
                refine lv_goto (tgt := 18) hx hb dX12_joinAlone_87 (by decide) ?_
                exact ih18 x137 y2_89 (by first | omega | omega) ⟨by first | decide | omega, by first | decide | omega⟩ _ _ hH hS _ (lv_sub hl [0, 1, 2, 3] rfl)
              · have b140 : x132.toInt = 0 := hw_ieq c135
                refine lv_aload_n hx hb dX12_joinAlone_31 rfl (lv_at hl 3 rfl) ?_
                obtain ⟨r141, ud_142, ky_143, lo_144, wk_145, dk_146, ln_147, sm_148, fi_149, be_150, rk_151, rl_152, rw_153, cl_154, dg_155, v156, R157, g158, g159, g160, g161, g162, g163, g164, g165, g166, g167, g168, g169⟩ := hH.oM G0
                refine hw_get hx hb fg_87_11 hK v156 rfl dX12_joinAlone_32 ?_
                refine lv_iload_n hx hb dX12_joinAlone_35 rfl (lv_at hl 0 rfl) ?_
                obtain ⟨f170, v171⟩ := hH.a78 (hw_RM_38 R157)
                refine hw_iald hx hb hK v171 (hw_in (by omega) (by omega)) dX12_joinAlone_36 ?_
                refine lv_topi (fun x173 e174 => ?_)
                refine lv_aload_n hx hb dX12_joinAlone_37 rfl (lv_at hl 3 rfl) ?_
                refine hw_get hx hb fg_90_11 hK v156 rfl dX12_joinAlone_38 ?_
                refine lv_iload_n hx hb dX12_joinAlone_41 rfl (lv_at hl 2 rfl) ?_
                refine lv_iload_n hx hb dX12_joinAlone_42 rfl (lv_at hl 0 rfl) ?_
                refine lv_iconst (v := (-1)) hx hb dX12_joinAlone_43 (by decide) ?_
                refine lv_ixor hx hb dX12_joinAlone_44 ?_
                refine lv_topi (fun x175 e176 => ?_)
                refine lv_iand hx hb dX12_joinAlone_45 ?_
                refine lv_topi (fun x177 e178 => ?_)
                have t179 : 0 ≤ x177.toInt ∧ x177.toInt ≤ y1_1.toInt := by rw [e178]; exact hw_and2 (by first | decide | omega)
                obtain ⟨f180, v181⟩ := hH.a79 (hw_RM_39 R157)
                refine hw_iald hx hb hK v181 (hw_in (by omega) (by omega)) dX12_joinAlone_46 ?_
                refine lv_topi (fun x183 e184 => ?_)
                refine lv_icmp_le (tgt := 59) hx hb dX12_joinAlone_47 (by decide) (fun c185 => ?_) (fun c185 => ?_)
                · have b186 : x173.toInt ≤ x183.toInt := hw_ile c185
                  refine lv_aload_n hx hb dX12_joinAlone_59 rfl (lv_at hl 3 rfl) ?_
                  refine hw_get hx hb fg_90_11 hK v156 rfl dX12_joinAlone_60 ?_
                  refine lv_iload_n hx hb dX12_joinAlone_63 rfl (lv_at hl 2 rfl) ?_
                  refine lv_iload_n hx hb dX12_joinAlone_64 rfl (lv_at hl 0 rfl) ?_
                  refine lv_iconst (v := (-1)) hx hb dX12_joinAlone_65 (by decide) ?_
                  refine lv_ixor hx hb dX12_joinAlone_66 ?_
                  refine lv_topi (fun x187 e188 => ?_)
                  refine lv_iand hx hb dX12_joinAlone_67 ?_
                  refine lv_topi (fun x189 e190 => ?_)
                  have t191 : 0 ≤ x189.toInt ∧ x189.toInt ≤ y1_1.toInt := by rw [e190]; exact hw_and2 (by first | decide | omega)
                  obtain ⟨f192, v193⟩ := hH.a79 (hw_RM_39 R157)
                  refine hw_iald hx hb hK v193 (hw_in (by omega) (by omega)) dX12_joinAlone_68 ?_
                  refine lv_topi (fun x195 e196 => ?_)
                  refine lv_istore (lv' := [(4, .int x195), (3, .int y3_88), (2, .int y2_89), (1, .int y1_1), (0, .ref h0)]) hx hb dX12_joinAlone_69 hl (by decide) rfl (fun ls hl => ?_)
                  refine lv_iload hx hb dX12_joinAlone_71 (lv_at hl 0 rfl) ?_
                  refine lv_iload_n hx hb dX12_joinAlone_73 rfl (lv_at hl 2 rfl) ?_
                  refine lv_icmp_ge (tgt := 82) hx hb dX12_joinAlone_74 (by decide) (fun c197 => ?_) (fun c197 => ?_)
                  · have b198 : y2_89.toInt ≤ x195.toInt := hw_ile c197
                    refine lv_iload_n hx hb dX12_joinAlone_82 rfl (lv_at hl 2 rfl) ?_
                    refine lv_istore_n (lv' := [(2, .int y2_89), (4, .int x195), (3, .int y3_88), (1, .int y1_1), (0, .ref h0)]) hx hb dX12_joinAlone_83 rfl hl (by decide) rfl (fun ls hl => ?_)
                    obtain ⟨x199, e200⟩ : ∃ y : Int32, y = y3_88 + 1 := ⟨_, rfl⟩
                    refine lv_iinc (v := x199) (lv' := [(3, .int x199), (2, .int y2_89), (4, .int x195), (1, .int y1_1), (0, .ref h0)]) hx hb dX12_joinAlone_84 hl (k := 2) rfl (by rw [e200]; rfl) (by decide) rfl (fun ls hl => ?_)
                    have t201 : x199.toInt = y3_88.toInt + 1 := by rw [e200]; exact hw_add rfl rfl (by omega) (by omega)
                    refine lv_goto (tgt := 18) hx hb dX12_joinAlone_87 (by decide) ?_
                    exact ih18 x199 y2_89 (by first | omega | omega) ⟨by first | decide | omega, by first | decide | omega⟩ _ _ hH hS _ (lv_sub hl [0, 1, 3, 4] rfl)
                  · have b202 : x195.toInt < y2_89.toInt := hw_inle c197
                    refine lv_iload hx hb dX12_joinAlone_77 (lv_at hl 0 rfl) ?_
                    refine lv_goto (tgt := 83) hx hb dX12_joinAlone_79 (by decide) ?_
                    refine lv_istore_n (lv' := [(2, .int x195), (4, .int x195), (3, .int y3_88), (1, .int y1_1), (0, .ref h0)]) hx hb dX12_joinAlone_83 rfl hl (by decide) rfl (fun ls hl => ?_)
                    obtain ⟨x203, e204⟩ : ∃ y : Int32, y = y3_88 + 1 := ⟨_, rfl⟩
                    refine lv_iinc (v := x203) (lv' := [(3, .int x203), (2, .int x195), (4, .int x195), (1, .int y1_1), (0, .ref h0)]) hx hb dX12_joinAlone_84 hl (k := 2) rfl (by rw [e204]; rfl) (by decide) rfl (fun ls hl => ?_)
                    have t205 : x203.toInt = y3_88.toInt + 1 := by rw [e204]; exact hw_add rfl rfl (by omega) (by omega)
                    refine lv_goto (tgt := 18) hx hb dX12_joinAlone_87 (by decide) ?_
                    exact ih18 x203 x195 (by first | omega | omega) ⟨by first | decide | omega, by first | decide | omega⟩ _ _ hH hS _ (lv_sub hl [0, 1, 3, 4] rfl)
                · have b206 : x183.toInt < x173.toInt := hw_inle c185
                  refine lv_aload_n hx hb dX12_joinAlone_50 rfl (lv_at hl 3 rfl) ?_
                  refine hw_get hx hb fg_87_11 hK v156 rfl dX12_joinAlone_51 ?_
                  refine lv_iload_n hx hb dX12_joinAlone_54 rfl (lv_at hl 0 rfl) ?_
                  obtain ⟨f207, v208⟩ := hH.a78 (hw_RM_38 R157)
                  refine hw_iald hx hb hK v208 (hw_in (by omega) (by omega)) dX12_joinAlone_55 ?_
                  refine lv_topi (fun x210 e211 => ?_)
                  refine lv_goto (tgt := 69) hx hb dX12_joinAlone_56 (by decide) ?_
                  refine lv_istore (lv' := [(4, .int x210), (3, .int y3_88), (2, .int y2_89), (1, .int y1_1), (0, .ref h0)]) hx hb dX12_joinAlone_69 hl (by decide) rfl (fun ls hl => ?_)
                  refine lv_iload hx hb dX12_joinAlone_71 (lv_at hl 0 rfl) ?_
                  refine lv_iload_n hx hb dX12_joinAlone_73 rfl (lv_at hl 2 rfl) ?_
                  refine lv_icmp_ge (tgt := 82) hx hb dX12_joinAlone_74 (by decide) (fun c212 => ?_) (fun c212 => ?_)
                  · have b213 : y2_89.toInt ≤ x210.toInt := hw_ile c212
                    refine lv_iload_n hx hb dX12_joinAlone_82 rfl (lv_at hl 2 rfl) ?_
                    refine lv_istore_n (lv' := [(2, .int y2_89), (4, .int x210), (3, .int y3_88), (1, .int y1_1), (0, .ref h0)]) hx hb dX12_joinAlone_83 rfl hl (by decide) rfl (fun ls hl => ?_)
                    obtain ⟨x214, e215⟩ : ∃ y : Int32, y = y3_88 + 1 := ⟨_, rfl⟩
                    refine lv_iinc (v := x214) (lv' := [(3, .int x214), (2, .int y2_89), (4, .int x210), (1, .int y1_1), (0, .ref h0)]) hx hb dX12_joinAlone_84 hl (k := 2) rfl (by rw [e215]; rfl) (by decide) rfl (fun ls hl => ?_)
                    have t216 : x214.toInt = y3_88.toInt + 1 := by rw [e215]; exact hw_add rfl rfl (by omega) (by omega)
                    refine lv_goto (tgt := 18) hx hb dX12_joinAlone_87 (by decide) ?_
                    exact ih18 x214 y2_89 (by first | omega | omega) ⟨by first | decide | omega, by first | decide | omega⟩ _ _ hH hS _ (lv_sub hl [0, 1, 3, 4] rfl)
                  · have b217 : x210.toInt < y2_89.toInt := hw_inle c212
                    refine lv_iload hx hb dX12_joinAlone_77 (lv_at hl 0 rfl) ?_
                    refine lv_goto (tgt := 83) hx hb dX12_joinAlone_79 (by decide) ?_
                    refine lv_istore_n (lv' := [(2, .int x210), (4, .int x210), (3, .int y3_88), (1, .int y1_1), (0, .ref h0)]) hx hb dX12_joinAlone_83 rfl hl (by decide) rfl (fun ls hl => ?_)
                    obtain ⟨x218, e219⟩ : ∃ y : Int32, y = y3_88 + 1 := ⟨_, rfl⟩
                    refine lv_iinc (v := x218) (lv' := [(3, .int x218), (2, .int x210), (4, .int x210), (1, .int y1_1), (0, .ref h0)]) hx hb dX12_joinAlone_84 hl (k := 2) rfl (by rw [e219]; rfl) (by decide) rfl (fun ls hl => ?_)
                    have t220 : x218.toInt = y3_88.toInt + 1 := by rw [e219]; exact hw_add rfl rfl (by omega) (by omega)
                    refine lv_goto (tgt := 18) hx hb dX12_joinAlone_87 (by decide) ?_
                    exact ih18 x218 x210 (by first | omega | omega) ⟨by first | decide | omega, by first | decide | omega⟩ _ _ hH hS _ (lv_sub hl [0, 1, 3, 4] rfl)
        exact L18 _ 0 99999 (Nat.lt_succ_self _) ⟨by first | decide | omega, by first | decide | omega⟩ _ _ hH hS _ (lv_sub hl [0, 1, 2, 3] rfl)
  exact L2 _ 0 (Nat.lt_succ_self _) ⟨by first | decide | omega, by first | decide | omega⟩ _ _ hH hS _ (lv_sub hl [0, 1] rfl)

set_option maxHeartbeats 4000000 in
set_option maxRecDepth 100000 in
theorem k_X12_workable (l : Launch) (D : hw_D) (G : Nat → Nat) (h0 : Nat) (sz : Nat) (G0 : G h0 = 9) : Met l yX12_workable wsX12_workable ({ frames := 6, cells := 0, slots := 0, locals := 136 } : Room) (hw_PC D G [.ref h0] sz (fun H => True)) (hw_QR (fun v => ∃ (r : Int32), v = .int r)) 0 0 (fun _ => False) := by
  refine hw_met (cc := cX12_workable) (maxL := 4) (ret := (some .int)) (plainFor_of_name (by decide)) rfl (Nat.le_of_ble_eq_true rfl) ?_
  intro p e s m args below meth c QQ ls hsz hx hb hml hr hts hown hlocks hnm hH hK hST hF hQ hl
  subst hsz
  have hS : va_S (hw_AW G [] s.heap.size) s.heap s.heap [] := va_S.rf
  have hl : lv_has ls 4 [(0, .ref h0)] := hl
  have u_11 : ∀ w ∈ u_ws RX12 TX12 45, w.before args s = true := fun w hw => hts w ((by decide +kernel : ∀ w ∈ u_ws RX12 TX12 45, w ∈ wsX12_workable) w hw)
  have fg_145_11 : hw_FG s args m 145 11 7 := ⟨RX12, "WardWalkersModel", RX12, TX12, 45, u_11, hown, rfl, by decide, (hts (.fieldLink RX12 145 "WardWalkersModel" "locks" "I") (by decide +kernel)), (fun _ h9 => h9)⟩
  have fg_142_11 : hw_FG s args m 142 11 3 := ⟨RX12, "WardWalkersModel", RX12, TX12, 45, u_11, hown, rfl, by decide, (hts (.fieldLink RX12 142 "WardWalkersModel" "keys" "I") (by decide +kernel)), (fun _ h9 => h9)⟩
  refine lv_iconst (v := 0) hx hb dX12_workable_0 (by decide) ?_
  refine lv_istore_n (lv' := [(1, .int 0), (0, .ref h0)]) hx hb dX12_workable_1 rfl hl (by decide) rfl (fun ls hl => ?_)
  refine lv_iconst (v := 0) hx hb dX12_workable_2 (by decide) ?_
  refine lv_istore_n (lv' := [(2, .int 0), (1, .int 0), (0, .ref h0)]) hx hb dX12_workable_3 rfl hl (by decide) rfl (fun ls hl => ?_)
  have L4 : ∀ (n4 : Nat) (y2_1 : Int32) (y1_2 : Int32) (hm : (7 - y2_1.toInt).toNat < n4) (g3 : 0 ≤ y2_1.toInt ∧ y2_1.toInt ≤ 7) (ls : Array Slot) (hl : lv_has ls 4 [(2, .int y2_1), (1, .int y1_2), (0, .ref h0)]), W p l e ({ frames := 6, cells := 0, slots := 0, locals := 136 } : Room) s m args below meth c s.heap [] 0 0 QQ (F0 m 4 ls []) := by
    intro n4
    induction n4 with
    | zero => intro y2_1 y1_2 hm; exact absurd hm (Nat.not_lt_zero _)
    | succ n4 ih4 =>
      intro y2_1 y1_2 hm g3 ls hl
      refine lv_iload_n hx hb dX12_workable_4 rfl (lv_at hl 0 rfl) ?_
      refine lv_aload_n hx hb dX12_workable_5 rfl (lv_at hl 2 rfl) ?_
      obtain ⟨r5, ud_6, ky_7, lo_8, wk_9, dk_10, ln_11, sm_12, fi_13, be_14, rk_15, rl_16, rw_17, cl_18, dg_19, v20, R21, g22, g23, g24, g25, g26, g27, g28, g29, g30, g31, g32, g33⟩ := hH.oM G0
      refine hw_get hx hb fg_145_11 hK v20 rfl dX12_workable_6 ?_
      refine lv_icmp_ge (tgt := 53) hx hb dX12_workable_9 (by decide) (fun c34 => ?_) (fun c34 => ?_)
      · have b35 : lo_8.toInt ≤ y2_1.toInt := hw_ile c34
        refine lv_iload_n hx hb dX12_workable_53 rfl (lv_at hl 1 rfl) ?_
        exact hw_iretR (v := y1_2) hx hb hr hlocks hQ rfl (⟨y1_2, rfl⟩) dX12_workable_54
      · have b36 : y2_1.toInt < lo_8.toInt := hw_inle c34
        refine lv_iconst (v := 0) hx hb dX12_workable_12 (by decide) ?_
        refine lv_istore_n (lv' := [(3, .int 0), (2, .int y2_1), (1, .int y1_2), (0, .ref h0)]) hx hb dX12_workable_13 rfl hl (by decide) rfl (fun ls hl => ?_)
        have L14 : ∀ (n40 : Nat) (y3_37 : Int32) (y1_38 : Int32) (hm : (7 - y3_37.toInt).toNat < n40) (g39 : 0 ≤ y3_37.toInt ∧ y3_37.toInt ≤ 7) (ls : Array Slot) (hl : lv_has ls 4 [(3, .int y3_37), (2, .int y2_1), (1, .int y1_38), (0, .ref h0)]), W p l e ({ frames := 6, cells := 0, slots := 0, locals := 136 } : Room) s m args below meth c s.heap [] 0 0 QQ (F0 m 14 ls []) := by
          intro n40
          induction n40 with
          | zero => intro y3_37 y1_38 hm; exact absurd hm (Nat.not_lt_zero _)
          | succ n40 ih14 =>
            intro y3_37 y1_38 hm g39 ls hl
            refine lv_iload_n hx hb dX12_workable_14 rfl (lv_at hl 0 rfl) ?_
            refine lv_aload_n hx hb dX12_workable_15 rfl (lv_at hl 3 rfl) ?_
            refine hw_get hx hb fg_142_11 hK v20 rfl dX12_workable_16 ?_
            refine lv_icmp_ge (tgt := 47) hx hb dX12_workable_19 (by decide) (fun c41 => ?_) (fun c41 => ?_)
            · have b42 : ky_7.toInt ≤ y3_37.toInt := hw_ile c41
              obtain ⟨x43, e44⟩ : ∃ y : Int32, y = y2_1 + 1 := ⟨_, rfl⟩
              refine lv_iinc (v := x43) (lv' := [(2, .int x43), (3, .int y3_37), (1, .int y1_38), (0, .ref h0)]) hx hb dX12_workable_47 hl (k := 1) rfl (by rw [e44]; rfl) (by decide) rfl (fun ls hl => ?_)
              have t45 : x43.toInt = y2_1.toInt + 1 := by rw [e44]; exact hw_add rfl rfl (by omega) (by omega)
              refine lv_goto (tgt := 4) hx hb dX12_workable_50 (by decide) ?_
              exact ih4 x43 y1_38 (by first | omega | omega) ⟨by first | decide | omega, by first | decide | omega⟩ _ (lv_sub hl [0, 2, 3] rfl)
            · have b46 : y3_37.toInt < ky_7.toInt := hw_inle c41
              refine lv_iload_n hx hb dX12_workable_22 rfl (lv_at hl 2 rfl) ?_
              refine lv_aload_n hx hb dX12_workable_23 rfl (lv_at hl 3 rfl) ?_
              refine lv_iload_n hx hb dX12_workable_24 rfl (lv_at hl 0 rfl) ?_
              refine lv_iload_n hx hb dX12_workable_25 rfl (lv_at hl 1 rfl) ?_
              refine hw_cR (va_runV (As := [.int y3_37, .int y2_1]) (rest := [.int y1_38]) ⟨hx, hb, hml, hown, hts⟩ (k_X12_mayMatch l D G h0 y3_37 y2_1 _ G0 (by first | assumption | decide | omega) (by first | assumption | decide | omega)) (cwV 2 hts gX12_workable_X12_mayMatch rfl rfl rfl (by decide +kernel) ⟨Nat.le_of_ble_eq_true rfl, Nat.le_of_ble_eq_true rfl⟩) (hw_pV (hw_rc (q := (RX12, TX12, 45)) hK v20 rfl) hH hK hST hS (by decide) (fun _ h => Or.inl h) trivial) rfl rfl hl.1 rfl (lv_room (Nat.le_of_ble_eq_true rfl)) dX12_workable_26 ⟨Nat.le_of_ble_eq_true rfl, Nat.le_of_ble_eq_true rfl⟩) (fun v hp => ?_)
              rcases hp with rfl | rfl
              · refine lv_if_eq (tgt := 38) hx hb dX12_workable_29 (by decide) (fun c47 => ?_) (fun c47 => ?_)
                · exact absurd c47 (by decide)
                · refine lv_iconst (v := 1) hx hb dX12_workable_32 (by decide) ?_
                  refine lv_iload_n hx hb dX12_workable_33 rfl (lv_at hl 1 rfl) ?_
                  refine lv_ishl hx hb dX12_workable_34 ?_
                  refine lv_topi (fun x48 e49 => ?_)
                  have t50 : 1 ≤ x48.toInt ∧ x48.toInt ≤ 64 := by rw [e49]; exact hw_sh1b 6 (by decide) (by first | decide | omega) (by first | decide | omega)
                  refine lv_goto (tgt := 39) hx hb dX12_workable_35 (by decide) ?_
                  refine lv_ior hx hb dX12_workable_39 ?_
                  refine lv_topi (fun x51 e52 => ?_)
                  refine lv_istore_n (lv' := [(1, .int x51), (3, .int y3_37), (2, .int y2_1), (0, .ref h0)]) hx hb dX12_workable_40 rfl hl (by decide) rfl (fun ls hl => ?_)
                  obtain ⟨x53, e54⟩ : ∃ y : Int32, y = y3_37 + 1 := ⟨_, rfl⟩
                  refine lv_iinc (v := x53) (lv' := [(3, .int x53), (1, .int x51), (2, .int y2_1), (0, .ref h0)]) hx hb dX12_workable_41 hl (k := 1) rfl (by rw [e54]; rfl) (by decide) rfl (fun ls hl => ?_)
                  have t55 : x53.toInt = y3_37.toInt + 1 := by rw [e54]; exact hw_add rfl rfl (by omega) (by omega)
                  refine lv_goto (tgt := 14) hx hb dX12_workable_44 (by decide) ?_
                  exact ih14 x53 x51 (by first | omega | omega) ⟨by first | decide | omega, by first | decide | omega⟩ _ (lv_sub hl [0, 2, 1, 3] rfl)
              · refine lv_if_eq (tgt := 38) hx hb dX12_workable_29 (by decide) (fun c56 => ?_) (fun c56 => ?_)
                · refine lv_iconst (v := 0) hx hb dX12_workable_38 (by decide) ?_
                  refine lv_ior hx hb dX12_workable_39 ?_
                  refine lv_topi (fun x57 e58 => ?_)
                  refine lv_istore_n (lv' := [(1, .int x57), (3, .int y3_37), (2, .int y2_1), (0, .ref h0)]) hx hb dX12_workable_40 rfl hl (by decide) rfl (fun ls hl => ?_)
                  obtain ⟨x59, e60⟩ : ∃ y : Int32, y = y3_37 + 1 := ⟨_, rfl⟩
                  refine lv_iinc (v := x59) (lv' := [(3, .int x59), (1, .int x57), (2, .int y2_1), (0, .ref h0)]) hx hb dX12_workable_41 hl (k := 1) rfl (by rw [e60]; rfl) (by decide) rfl (fun ls hl => ?_)
                  have t61 : x59.toInt = y3_37.toInt + 1 := by rw [e60]; exact hw_add rfl rfl (by omega) (by omega)
                  refine lv_goto (tgt := 14) hx hb dX12_workable_44 (by decide) ?_
                  exact ih14 x59 x57 (by first | omega | omega) ⟨by first | decide | omega, by first | decide | omega⟩ _ (lv_sub hl [0, 2, 1, 3] rfl)
                · exact absurd c56 (by decide)
        exact L14 _ 0 y1_2 (Nat.lt_succ_self _) ⟨by first | decide | omega, by first | decide | omega⟩ _ (lv_sub hl [0, 1, 2, 3] rfl)
  exact L4 _ 0 0 (Nat.lt_succ_self _) ⟨by first | decide | omega, by first | decide | omega⟩ _ (lv_sub hl [0, 1, 2] rfl)

set_option maxHeartbeats 4000000 in
set_option maxRecDepth 100000 in
theorem k_X12_work (l : Launch) (D : hw_D) (G : Nat → Nat) (h0 : Nat) (p1 : Int32) (sz : Nat) (rm : Nat → Nat) (ud_m ky_m lo_m wk_m dk_m ln_m sm_m fi_m be_m rk_m rl_m rw_m cl_m dg_m : Int32) (G0 : G h0 = 9) (Rm : hw_RM G rm) (gud_m : 0 ≤ ud_m.toInt ∧ ud_m.toInt ≤ 8) (gky_m : 0 ≤ ky_m.toInt ∧ ky_m.toInt ≤ 7) (glo_m : 0 ≤ lo_m.toInt ∧ lo_m.toInt ≤ 7) (gwk_m : 0 ≤ wk_m.toInt ∧ wk_m.toInt ≤ 3) (gln_m : 0 ≤ ln_m.toInt ∧ ln_m.toInt ≤ 200) (gsm_m : 0 ≤ sm_m.toInt ∧ sm_m.toInt ≤ 6) (gfi_m : 0 ≤ fi_m.toInt ∧ fi_m.toInt ≤ 200) (gbe_m : 0 ≤ be_m.toInt ∧ be_m.toInt ≤ 200) (grk_m : 0 ≤ rk_m.toInt ∧ rk_m.toInt ≤ 7) (grl_m : 0 ≤ rl_m.toInt ∧ rl_m.toInt ≤ 7) (grw_m : 0 ≤ rw_m.toInt ∧ rw_m.toInt ≤ 3) (gdg_m : 0 ≤ dg_m.toInt ∧ dg_m.toInt ≤ 1) : Met l yX12_work wsX12_work ({ frames := 7, cells := 0, slots := 0, locals := 159 } : Room) (hw_PC D G [.ref h0, .int p1] sz (fun H => va_at D.1 vwCl (h0, .inr (11, hw_LM rm ud_m ky_m lo_m wk_m dk_m ln_m sm_m fi_m be_m rk_m rl_m rw_m cl_m dg_m)) H)) (hw_QM (fun v H => (v = some (.int (-3)) ∧ hw_HT D G H ∧ va_at D.1 vwCl (h0, .inr (11, hw_LM rm ud_m ky_m lo_m wk_m dk_m ln_m sm_m fi_m be_m rk_m rl_m rw_m cl_m dg_m)) H ∧ (p1.toInt < 1 ∨ 7 < p1.toInt)) ∨ (∃ (r : Int32), v = some (.int r) ∧ hw_HT D G H ∧ va_at D.1 vwCl (h0, .inr (11, hw_LM rm ud_m ky_m lo_m wk_m dk_m ln_m sm_m fi_m be_m rk_m rl_m rw_m cl_m dg_m)) H ∧ (1 ≤ p1.toInt ∧ p1.toInt ≤ 7) ∧ (lo_m.toInt = 0 → r.toInt = -1))) (hw_AW G [77, 78, 79, 80] sz)) 0 0 (hw_AW G [77, 78, 79, 80] sz) := by
  refine hw_met (cc := cX12_work) (maxL := 6) (ret := (some .int)) (plainFor_of_name (by decide)) rfl (Nat.le_of_ble_eq_true rfl) ?_
  intro p e s m args below meth c QQ ls hsz hx hb hml hr hts hown hlocks hnm hH hK hST hF hQ hl
  subst hsz
  have hS : va_S (hw_AW G [77, 78, 79, 80] s.heap.size) s.heap s.heap [] := va_S.rf
  have vm := hF
  have hl : lv_has ls 6 [(0, .ref h0), (1, .int p1)] := hl
  have u_11 : ∀ w ∈ u_ws RX12 TX12 45, w.before args s = true := fun w hw => hts w ((by decide +kernel : ∀ w ∈ u_ws RX12 TX12 45, w ∈ wsX12_work) w hw)
  have fg_148_11 : hw_FG s args m 148 11 12 := ⟨RX12, "WardWalkersModel", RX12, TX12, 45, u_11, hown, rfl, by decide, (hts (.fieldLink RX12 148 "WardWalkersModel" "walkers" "I") (by decide +kernel)), (fun _ h9 => h9)⟩
  have fg_145_11 : hw_FG s args m 145 11 7 := ⟨RX12, "WardWalkersModel", RX12, TX12, 45, u_11, hown, rfl, by decide, (hts (.fieldLink RX12 145 "WardWalkersModel" "locks" "I") (by decide +kernel)), (fun _ h9 => h9)⟩
  have fg_90_11 : hw_FG s args m 90 11 39 := ⟨RX12, "WardWalkersModel", RX12, TX12, 45, u_11, hown, rfl, by decide, (hts (.fieldLink RX12 90 "WardWalkersModel" "together" "[I") (by decide +kernel)), (fun _ h9 => h9)⟩
  refine lv_iload_n hx hb dX12_work_0 rfl (lv_at hl 1 rfl) ?_
  refine lv_i2l hx hb dX12_work_1 rfl ?_
  refine lv_topl (fun x1 e2 => ?_)
  have t3 : x1.toInt = p1.toInt := by rw [e2]; exact hw_i2l _
  have rg4 := hw_rng p1
  refine lv_lconst (v := 1) hx hb dX12_work_2 (by decide) ?_
  refine lv_ldc2 (v := 7) hx hb hown (hts (.constantLong RX12 284 (7)) (by decide +kernel)) dX12_work_3 ?_
  refine hw_cR (va_runS (As := [.long x1, .long 1, .long 7]) (rest := []) ⟨hx, hb, hml, hown, hts⟩ (k_X12_in l D G x1 1 7 _) (va_cwS 3 hts gX12_work_X12_in rfl rfl rfl (by decide +kernel) ⟨Nat.le_of_ble_eq_true rfl, Nat.le_of_ble_eq_true rfl⟩) (hw_pS hH hK hST hS (by decide) (fun _ h => Or.inl h) trivial) rfl rfl hl.1 rfl (lv_room (Nat.le_of_ble_eq_true rfl)) dX12_work_6 ⟨Nat.le_of_ble_eq_true rfl, Nat.le_of_ble_eq_true rfl⟩) (fun v hp => ?_)
  have l5 : (1 : Int64).toInt = 1 := by decide
  have l6 : (7 : Int64).toInt = 7 := by decide
  rcases hp with ⟨rfl, q7⟩ | ⟨rfl, q8⟩
  · refine lv_if_ne (tgt := 15) hx hb dX12_work_9 (by decide) (fun c9 => ?_) (fun c9 => ?_)
    · refine lv_iconst (v := 0) hx hb dX12_work_15 (by decide) ?_
      refine lv_istore_n (lv' := [(2, .int 0), (0, .ref h0), (1, .int p1)]) hx hb dX12_work_16 rfl hl (by decide) rfl (fun ls hl => ?_)
      have L17 : ∀ (n12 : Nat) (y2_10 : Int32) (hm : (128 - y2_10.toInt).toNat < n12) (g11 : 0 ≤ y2_10.toInt ∧ y2_10.toInt ≤ 128) (H : Heap) (locs : List Loc) (hH : hw_HT D G H) (vm : va_at D.1 vwCl (h0, .inr (11, hw_LM rm ud_m ky_m lo_m wk_m dk_m ln_m sm_m fi_m be_m rk_m rl_m rw_m cl_m dg_m)) H) (hS : va_S (hw_AW G [77, 78, 79, 80] s.heap.size) s.heap H locs) (ls : Array Slot) (hl : lv_has ls 6 [(2, .int y2_10), (0, .ref h0), (1, .int p1)]), W p l e ({ frames := 7, cells := 0, slots := 0, locals := 159 } : Room) s m args below meth c H locs 0 0 QQ (F0 m 17 ls []) := by
        intro n12
        induction n12 with
        | zero => intro y2_10 hm; exact absurd hm (Nat.not_lt_zero _)
        | succ n12 ih17 =>
          intro y2_10 hm g11 H locs hH vm hS ls hl
          refine lv_iload_n hx hb dX12_work_17 rfl (lv_at hl 0 rfl) ?_
          refine lv_sipush (v := 128) hx hb dX12_work_18 (by decide) ?_
          refine lv_icmp_ge (tgt := 47) hx hb dX12_work_21 (by decide) (fun c13 => ?_) (fun c13 => ?_)
          · have b14 : 128 ≤ y2_10.toInt := hw_ile c13
            refine lv_iconst (v := 0) hx hb dX12_work_47 (by decide) ?_
            refine lv_istore_n (lv' := [(2, .int 0), (0, .ref h0), (1, .int p1)]) hx hb dX12_work_48 rfl hl (by decide) rfl (fun ls hl => ?_)
            have L49 : ∀ (n17 : Nat) (y2_15 : Int32) (hm : (3 - y2_15.toInt).toNat < n17) (g16 : 0 ≤ y2_15.toInt ∧ y2_15.toInt ≤ 3) (H : Heap) (locs : List Loc) (hH : hw_HT D G H) (vm : va_at D.1 vwCl (h0, .inr (11, hw_LM rm ud_m ky_m lo_m wk_m dk_m ln_m sm_m fi_m be_m rk_m rl_m rw_m cl_m dg_m)) H) (hS : va_S (hw_AW G [77, 78, 79, 80] s.heap.size) s.heap H locs) (ls : Array Slot) (hl : lv_has ls 6 [(2, .int y2_15), (0, .ref h0), (1, .int p1)]), W p l e ({ frames := 7, cells := 0, slots := 0, locals := 159 } : Room) s m args below meth c H locs 0 0 QQ (F0 m 49 ls []) := by
              intro n17
              induction n17 with
              | zero => intro y2_15 hm; exact absurd hm (Nat.not_lt_zero _)
              | succ n17 ih49 =>
                intro y2_15 hm g16 H locs hH vm hS ls hl
                refine lv_iload_n hx hb dX12_work_49 rfl (lv_at hl 0 rfl) ?_
                refine lv_aload_n hx hb dX12_work_50 rfl (lv_at hl 1 rfl) ?_
                refine hw_get hx hb fg_148_11 hK vm rfl dX12_work_51 ?_
                refine lv_icmp_ge (tgt := 72) hx hb dX12_work_54 (by decide) (fun c18 => ?_) (fun c18 => ?_)
                · have b19 : wk_m.toInt ≤ y2_15.toInt := hw_ile c18
                  refine lv_aload_n hx hb dX12_work_72 rfl (lv_at hl 1 rfl) ?_
                  refine hw_cR (va_runV (As := []) (rest := []) ⟨hx, hb, hml, hown, hts⟩ (k_X12_workable l D G h0 _ G0) (cwV 0 hts gX12_work_X12_workable rfl rfl rfl (by decide +kernel) ⟨Nat.le_of_ble_eq_true rfl, Nat.le_of_ble_eq_true rfl⟩) (hw_pV (hw_rc (q := (RX12, TX12, 45)) hK vm rfl) hH hK hST hS (by decide) (fun _ h => Or.inl h) trivial) rfl rfl hl.1 rfl (lv_room (Nat.le_of_ble_eq_true rfl)) dX12_work_73 ⟨Nat.le_of_ble_eq_true rfl, Nat.le_of_ble_eq_true rfl⟩) (fun v hp => ?_)
                  obtain ⟨x20, rfl⟩ := hp
                  refine lv_istore_n (lv' := [(2, .int x20), (0, .ref h0), (1, .int p1)]) hx hb dX12_work_76 rfl hl (by decide) rfl (fun ls hl => ?_)
                  refine lv_ldcw (v := 99999) hx hb hown (hts (.constant RX12 279 (99999)) (by decide +kernel)) dX12_work_77 ?_
                  refine lv_istore_n (lv' := [(3, .int 99999), (2, .int x20), (0, .ref h0), (1, .int p1)]) hx hb dX12_work_80 rfl hl (by decide) rfl (fun ls hl => ?_)
                  refine lv_iconst (v := 0) hx hb dX12_work_81 (by decide) ?_
                  refine lv_istore (lv' := [(4, .int 0), (3, .int 99999), (2, .int x20), (0, .ref h0), (1, .int p1)]) hx hb dX12_work_82 hl (by decide) rfl (fun ls hl => ?_)
                  have L84 : ∀ (n24 : Nat) (y4_21 : Int32) (y3_22 : Int32) (hm : (128 - y4_21.toInt).toNat < n24) (g23 : 0 ≤ y4_21.toInt ∧ y4_21.toInt ≤ 128) (inv84_0 : lo_m.toInt = 0 → y3_22.toInt = 99999) (H : Heap) (locs : List Loc) (hH : hw_HT D G H) (vm : va_at D.1 vwCl (h0, .inr (11, hw_LM rm ud_m ky_m lo_m wk_m dk_m ln_m sm_m fi_m be_m rk_m rl_m rw_m cl_m dg_m)) H) (hS : va_S (hw_AW G [77, 78, 79, 80] s.heap.size) s.heap H locs) (ls : Array Slot) (hl : lv_has ls 6 [(4, .int y4_21), (3, .int y3_22), (2, .int x20), (0, .ref h0), (1, .int p1)]), W p l e ({ frames := 7, cells := 0, slots := 0, locals := 159 } : Room) s m args below meth c H locs 0 0 QQ (F0 m 84 ls []) := by
                    intro n24
                    induction n24 with
                    | zero => intro y4_21 y3_22 hm; exact absurd hm (Nat.not_lt_zero _)
                    | succ n24 ih84 =>
                      intro y4_21 y3_22 hm g23 inv84_0 H locs hH vm hS ls hl
                      refine lv_iload hx hb dX12_work_84 (lv_at hl 0 rfl) ?_
                      refine lv_iconst (v := 1) hx hb dX12_work_86 (by decide) ?_
                      refine lv_aload_n hx hb dX12_work_87 rfl (lv_at hl 3 rfl) ?_
                      refine hw_get hx hb fg_145_11 hK vm rfl dX12_work_88 ?_
                      refine lv_ishl hx hb dX12_work_91 ?_
                      refine lv_topi (fun x25 e26 => ?_)
                      have t27 : 1 ≤ x25.toInt ∧ x25.toInt ≤ 128 := by rw [e26]; exact hw_sh1b 7 (by decide) (by first | decide | omega) (by first | decide | omega)
                      have hsh : lo_m.toInt = 0 → x25.toInt = 1 := by intro h9; rw [e26, hw_z h9]; rfl
                      refine lv_icmp_ge (tgt := 154) hx hb dX12_work_92 (by decide) (fun c28 => ?_) (fun c28 => ?_)
                      · have b29 : x25.toInt ≤ y4_21.toInt := hw_ile c28
                        refine lv_iload_n hx hb dX12_work_154 rfl (lv_at hl 1 rfl) ?_
                        refine lv_ldcw (v := 99999) hx hb hown (hts (.constant RX12 279 (99999)) (by decide +kernel)) dX12_work_155 ?_
                        refine lv_icmp_ne (tgt := 165) hx hb dX12_work_158 (by decide) (fun c30 => ?_) (fun c30 => ?_)
                        · have b31 : y3_22.toInt ≠ 99999 := hw_ine c30
                          refine lv_iload_n hx hb dX12_work_165 rfl (lv_at hl 1 rfl) ?_
                          exact hw_iretM (v := y3_22) hx hb hr hlocks hQ hS rfl (Or.inr (⟨y3_22, rfl, hH, vm, (by first | rfl | trivial | assumption | omega | (intros; first | rfl | assumption | omega | (exfalso; omega))), (by first | rfl | trivial | assumption | omega | (intros; first | rfl | assumption | omega | (exfalso; omega)))⟩)) dX12_work_166
                        · have b32 : y3_22.toInt = 99999 := hw_ieq c30
                          refine lv_iconst (v := (-1)) hx hb dX12_work_161 (by decide) ?_
                          refine lv_goto (tgt := 166) hx hb dX12_work_162 (by decide) ?_
                          exact hw_iretM (v := (-1)) hx hb hr hlocks hQ hS rfl (Or.inr (⟨(-1), rfl, hH, vm, (by first | rfl | trivial | assumption | omega | (intros; first | rfl | assumption | omega | (exfalso; omega))), (by first | rfl | trivial | assumption | omega | (intros; first | rfl | assumption | omega | (exfalso; omega)))⟩)) dX12_work_166
                      · have b33 : y4_21.toInt < x25.toInt := hw_inle c28
                        refine lv_iload hx hb dX12_work_95 (lv_at hl 0 rfl) ?_
                        refine lv_iload_n hx hb dX12_work_97 rfl (lv_at hl 2 rfl) ?_
                        refine lv_iconst (v := (-1)) hx hb dX12_work_98 (by decide) ?_
                        refine lv_ixor hx hb dX12_work_99 ?_
                        refine lv_topi (fun x34 e35 => ?_)
                        refine lv_iand hx hb dX12_work_100 ?_
                        refine lv_topi (fun x36 e37 => ?_)
                        have t38 : 0 ≤ x36.toInt ∧ x36.toInt ≤ y4_21.toInt := by rw [e37]; exact hw_and2 (by first | decide | omega)
                        refine lv_if_ne (tgt := 128) hx hb dX12_work_101 (by decide) (fun c39 => ?_) (fun c39 => ?_)
                        · have b40 : x36.toInt ≠ 0 := hw_ine c39
                          refine lv_iconst (v := 0) hx hb dX12_work_128 (by decide) ?_
                          refine lv_istore (lv' := [(5, .int 0), (4, .int y4_21), (3, .int y3_22), (2, .int x20), (0, .ref h0), (1, .int p1)]) hx hb dX12_work_129 hl (by decide) rfl (fun ls hl => ?_)
                          refine lv_iload hx hb dX12_work_131 (lv_at hl 0 rfl) ?_
                          refine lv_if_eq (tgt := 146) hx hb dX12_work_133 (by decide) (fun c41 => ?_) (fun c41 => ?_)
                          · refine lv_iload_n hx hb dX12_work_146 rfl (lv_at hl 2 rfl) ?_
                            refine lv_istore_n (lv' := [(3, .int y3_22), (5, .int 0), (4, .int y4_21), (2, .int x20), (0, .ref h0), (1, .int p1)]) hx hb dX12_work_147 rfl hl (by decide) rfl (fun ls hl => ?_)
                            obtain ⟨x42, e43⟩ : ∃ y : Int32, y = y4_21 + 1 := ⟨_, rfl⟩
                            refine lv_iinc (v := x42) (lv' := [(4, .int x42), (3, .int y3_22), (5, .int 0), (2, .int x20), (0, .ref h0), (1, .int p1)]) hx hb dX12_work_148 hl (k := 2) rfl (by rw [e43]; rfl) (by decide) rfl (fun ls hl => ?_)
                            have t44 : x42.toInt = y4_21.toInt + 1 := by rw [e43]; exact hw_add rfl rfl (by omega) (by omega)
                            refine lv_goto (tgt := 84) hx hb dX12_work_151 (by decide) ?_
                            exact ih84 x42 y3_22 (by first | omega | omega) ⟨by first | decide | omega, by first | decide | omega⟩ (by first | assumption | omega | decide | rfl | (intros; first | rfl | assumption | omega)) _ _ hH vm hS _ (lv_sub hl [0, 1, 3, 4, 5] rfl)
                          · exact absurd c41 (by decide)
                        · have b45 : x36.toInt = 0 := hw_ieq c39
                          refine lv_iload hx hb dX12_work_104 (lv_at hl 0 rfl) ?_
                          refine hw_cR (va_runS (As := [.int y4_21]) (rest := []) ⟨hx, hb, hml, hown, hts⟩ (k_X12_bits l D G y4_21 _) (va_cwS 1 hts gX12_work_X12_bits rfl rfl rfl (by decide +kernel) ⟨Nat.le_of_ble_eq_true rfl, Nat.le_of_ble_eq_true rfl⟩) (hw_pS hH hK hST hS (by decide) (fun _ h => Or.inl h) trivial) rfl rfl hl.1 rfl (lv_room (Nat.le_of_ble_eq_true rfl)) dX12_work_106 ⟨Nat.le_of_ble_eq_true rfl, Nat.le_of_ble_eq_true rfl⟩) (fun v hp => ?_)
                          obtain ⟨x46, rfl, g47, q48⟩ := hp
                          refine lv_iload_n hx hb dX12_work_109 rfl (lv_at hl 4 rfl) ?_
                          refine lv_icmp_ne (tgt := 128) hx hb dX12_work_110 (by decide) (fun c49 => ?_) (fun c49 => ?_)
                          · have b50 : x46.toInt ≠ p1.toInt := hw_ine c49
                            refine lv_iconst (v := 0) hx hb dX12_work_128 (by decide) ?_
                            refine lv_istore (lv' := [(5, .int 0), (4, .int y4_21), (3, .int y3_22), (2, .int x20), (0, .ref h0), (1, .int p1)]) hx hb dX12_work_129 hl (by decide) rfl (fun ls hl => ?_)
                            refine lv_iload hx hb dX12_work_131 (lv_at hl 0 rfl) ?_
                            refine lv_if_eq (tgt := 146) hx hb dX12_work_133 (by decide) (fun c51 => ?_) (fun c51 => ?_)
                            · refine lv_iload_n hx hb dX12_work_146 rfl (lv_at hl 2 rfl) ?_
                              refine lv_istore_n (lv' := [(3, .int y3_22), (5, .int 0), (4, .int y4_21), (2, .int x20), (0, .ref h0), (1, .int p1)]) hx hb dX12_work_147 rfl hl (by decide) rfl (fun ls hl => ?_)
                              obtain ⟨x52, e53⟩ : ∃ y : Int32, y = y4_21 + 1 := ⟨_, rfl⟩
                              refine lv_iinc (v := x52) (lv' := [(4, .int x52), (3, .int y3_22), (5, .int 0), (2, .int x20), (0, .ref h0), (1, .int p1)]) hx hb dX12_work_148 hl (k := 2) rfl (by rw [e53]; rfl) (by decide) rfl (fun ls hl => ?_)
                              have t54 : x52.toInt = y4_21.toInt + 1 := by rw [e53]; exact hw_add rfl rfl (by omega) (by omega)
                              refine lv_goto (tgt := 84) hx hb dX12_work_151 (by decide) ?_
                              exact ih84 x52 y3_22 (by first | omega | omega) ⟨by first | decide | omega, by first | decide | omega⟩ (by first | assumption | omega | decide | rfl | (intros; first | rfl | assumption | omega)) _ _ hH vm hS _ (lv_sub hl [0, 1, 3, 4, 5] rfl)
                            · exact absurd c51 (by decide)
                          · have b55 : x46.toInt = p1.toInt := hw_ieq c49
                            refine lv_aload_n hx hb dX12_work_113 rfl (lv_at hl 3 rfl) ?_
                            refine hw_get hx hb fg_90_11 hK vm rfl dX12_work_114 ?_
                            refine lv_iload hx hb dX12_work_117 (lv_at hl 0 rfl) ?_
                            obtain ⟨f56, v57⟩ := hH.a79 (hw_RM_39 Rm)
                            refine hw_iald hx hb hK v57 (hw_in (by omega) (by omega)) dX12_work_119 ?_
                            refine lv_topi (fun x59 e60 => ?_)
                            refine lv_iload_n hx hb dX12_work_120 rfl (lv_at hl 1 rfl) ?_
                            refine lv_icmp_ge (tgt := 128) hx hb dX12_work_121 (by decide) (fun c61 => ?_) (fun c61 => ?_)
                            · have b62 : y3_22.toInt ≤ x59.toInt := hw_ile c61
                              refine lv_iconst (v := 0) hx hb dX12_work_128 (by decide) ?_
                              refine lv_istore (lv' := [(5, .int 0), (4, .int y4_21), (3, .int y3_22), (2, .int x20), (0, .ref h0), (1, .int p1)]) hx hb dX12_work_129 hl (by decide) rfl (fun ls hl => ?_)
                              refine lv_iload hx hb dX12_work_131 (lv_at hl 0 rfl) ?_
                              refine lv_if_eq (tgt := 146) hx hb dX12_work_133 (by decide) (fun c63 => ?_) (fun c63 => ?_)
                              · refine lv_iload_n hx hb dX12_work_146 rfl (lv_at hl 2 rfl) ?_
                                refine lv_istore_n (lv' := [(3, .int y3_22), (5, .int 0), (4, .int y4_21), (2, .int x20), (0, .ref h0), (1, .int p1)]) hx hb dX12_work_147 rfl hl (by decide) rfl (fun ls hl => ?_)
                                obtain ⟨x64, e65⟩ : ∃ y : Int32, y = y4_21 + 1 := ⟨_, rfl⟩
                                refine lv_iinc (v := x64) (lv' := [(4, .int x64), (3, .int y3_22), (5, .int 0), (2, .int x20), (0, .ref h0), (1, .int p1)]) hx hb dX12_work_148 hl (k := 2) rfl (by rw [e65]; rfl) (by decide) rfl (fun ls hl => ?_)
                                have t66 : x64.toInt = y4_21.toInt + 1 := by rw [e65]; exact hw_add rfl rfl (by omega) (by omega)
                                refine lv_goto (tgt := 84) hx hb dX12_work_151 (by decide) ?_
                                exact ih84 x64 y3_22 (by first | omega | omega) ⟨by first | decide | omega, by first | decide | omega⟩ (by first | assumption | omega | decide | rfl | (intros; first | rfl | assumption | omega)) _ _ hH vm hS _ (lv_sub hl [0, 1, 3, 4, 5] rfl)
                              · exact absurd c63 (by decide)
                            · have b67 : x59.toInt < y3_22.toInt := hw_inle c61
                              refine lv_iconst (v := 1) hx hb dX12_work_124 (by decide) ?_
                              refine lv_goto (tgt := 129) hx hb dX12_work_125 (by decide) ?_
                              refine lv_istore (lv' := [(5, .int 1), (4, .int y4_21), (3, .int y3_22), (2, .int x20), (0, .ref h0), (1, .int p1)]) hx hb dX12_work_129 hl (by decide) rfl (fun ls hl => ?_)
                              refine lv_iload hx hb dX12_work_131 (lv_at hl 0 rfl) ?_
                              refine lv_if_eq (tgt := 146) hx hb dX12_work_133 (by decide) (fun c68 => ?_) (fun c68 => ?_)
                              · exact absurd c68 (by decide)
                              · refine lv_aload_n hx hb dX12_work_136 rfl (lv_at hl 4 rfl) ?_
                                refine hw_get hx hb fg_90_11 hK vm rfl dX12_work_137 ?_
                                refine lv_iload hx hb dX12_work_140 (lv_at hl 1 rfl) ?_
                                obtain ⟨f69, v70⟩ := hH.a79 (hw_RM_39 Rm)
                                refine hw_iald hx hb hK v70 (hw_in (by omega) (by omega)) dX12_work_142 ?_
                                refine lv_topi (fun x72 e73 => ?_)
                                refine lv_goto (tgt := 147) hx hb dX12_work_143 (by decide) ?_
                                refine lv_istore_n (lv' := [(3, .int x72), (5, .int 1), (4, .int y4_21), (2, .int x20), (0, .ref h0), (1, .int p1)]) hx hb dX12_work_147 rfl hl (by decide) rfl (fun ls hl => ?_)
                                obtain ⟨x74, e75⟩ : ∃ y : Int32, y = y4_21 + 1 := ⟨_, rfl⟩
                                refine lv_iinc (v := x74) (lv' := [(4, .int x74), (3, .int x72), (5, .int 1), (2, .int x20), (0, .ref h0), (1, .int p1)]) hx hb dX12_work_148 hl (k := 2) rfl (by rw [e75]; rfl) (by decide) rfl (fun ls hl => ?_)
                                have t76 : x74.toInt = y4_21.toInt + 1 := by rw [e75]; exact hw_add rfl rfl (by omega) (by omega)
                                refine lv_goto (tgt := 84) hx hb dX12_work_151 (by decide) ?_
                                exact ih84 x74 x72 (by first | omega | omega) ⟨by first | decide | omega, by first | decide | omega⟩ (by first | assumption | omega | decide | rfl | (intros; first | rfl | assumption | omega)) _ _ hH vm hS _ (lv_sub hl [0, 1, 3, 4, 5] rfl)
                  exact L84 _ 0 99999 (Nat.lt_succ_self _) ⟨by first | decide | omega, by first | decide | omega⟩ (by first | assumption | omega | decide | rfl | (intros; first | rfl | assumption | omega)) _ _ hH vm hS _ (lv_sub hl [0, 1, 2, 3, 4] rfl)
                · have b77 : y2_15.toInt < wk_m.toInt := hw_inle c18
                  refine lv_aload_n hx hb dX12_work_57 rfl (lv_at hl 1 rfl) ?_
                  refine lv_iload_n hx hb dX12_work_58 rfl (lv_at hl 0 rfl) ?_
                  refine hw_cM0 (va_runV (As := [.int y2_15]) (rest := []) ⟨hx, hb, hml, hown, hts⟩ (k_X12_layAlone l D G h0 y2_15 _ G0 (by first | assumption | decide | omega)) (cwV 1 hts gX12_work_X12_layAlone rfl rfl rfl (by decide +kernel) ⟨Nat.le_of_ble_eq_true rfl, Nat.le_of_ble_eq_true rfl⟩) (hw_pV (hw_rc (q := (RX12, TX12, 45)) hK vm rfl) hH hK hST hS (by decide) (fun _ h => Or.inl h) trivial) rfl rfl hl.1 rfl (lv_room (Nat.le_of_ble_eq_true rfl)) dX12_work_59 ⟨Nat.le_of_ble_eq_true rfl, Nat.le_of_ble_eq_true rfl⟩) hS (hw_AWsub (by decide) (fun _ _ => rfl) hS.1) (fun v H locs hp hz hk hS => ?_)
                  obtain ⟨rfl, hH⟩ := hp
                  have vm := va_at.kept vm (hk _ (hw_lt vm) (hw_AWn G0 (by decide) (hw_lt vm)))
                  refine lv_aload_n hx hb dX12_work_62 rfl (lv_at hl 1 rfl) ?_
                  refine hw_cM0 (va_runV (As := []) (rest := []) ⟨hx, hb, hml, hown, hts⟩ (k_X12_joinAlone l D G h0 _ G0) (cwV 0 hts gX12_work_X12_joinAlone rfl rfl rfl (by decide +kernel) ⟨Nat.le_of_ble_eq_true rfl, Nat.le_of_ble_eq_true rfl⟩) (hw_pV (hw_rc (q := (RX12, TX12, 45)) hK vm rfl) hH hK hST hS (by decide) (fun _ h => Or.inl h) trivial) rfl rfl hl.1 rfl (lv_room (Nat.le_of_ble_eq_true rfl)) dX12_work_63 ⟨Nat.le_of_ble_eq_true rfl, Nat.le_of_ble_eq_true rfl⟩) hS (hw_AWsub (by decide) (fun _ _ => rfl) hS.1) (fun v H locs hp hz hk hS => ?_)
                  obtain ⟨rfl, hH⟩ := hp
                  have vm := va_at.kept vm (hk _ (hw_lt vm) (hw_AWn G0 (by decide) (hw_lt vm)))
                  obtain ⟨x78, e79⟩ : ∃ y : Int32, y = y2_15 + 1 := ⟨_, rfl⟩
                  refine lv_iinc (v := x78) (lv' := [(2, .int x78), (0, .ref h0), (1, .int p1)]) hx hb dX12_work_66 hl (k := 0) rfl (by rw [e79]; rfl) (by decide) rfl (fun ls hl => ?_)
                  have t80 : x78.toInt = y2_15.toInt + 1 := by rw [e79]; exact hw_add rfl rfl (by omega) (by omega)
                  refine lv_goto (tgt := 49) hx hb dX12_work_69 (by decide) ?_
                  exact ih49 x78 (by first | omega | omega) ⟨by first | decide | omega, by first | decide | omega⟩ _ _ hH vm hS _ (lv_sub hl [0, 1, 2] rfl)
            exact L49 _ 0 (Nat.lt_succ_self _) ⟨by first | decide | omega, by first | decide | omega⟩ _ _ hH vm hS _ (lv_sub hl [0, 1, 2] rfl)
          · have b81 : y2_10.toInt < 128 := hw_inle c13
            refine lv_aload_n hx hb dX12_work_24 rfl (lv_at hl 1 rfl) ?_
            refine hw_get hx hb fg_90_11 hK vm rfl dX12_work_25 ?_
            refine lv_iload_n hx hb dX12_work_28 rfl (lv_at hl 0 rfl) ?_
            refine lv_iload_n hx hb dX12_work_29 rfl (lv_at hl 0 rfl) ?_
            refine lv_if_ne (tgt := 37) hx hb dX12_work_30 (by decide) (fun c82 => ?_) (fun c82 => ?_)
            · have b83 : y2_10.toInt ≠ 0 := hw_ine c82
              refine lv_ldcw (v := 99999) hx hb hown (hts (.constant RX12 279 (99999)) (by decide +kernel)) dX12_work_37 ?_
              obtain ⟨f84, v85⟩ := hH.a79 (hw_RM_39 Rm)
              refine hw_iast hx hb hK hH v85 (hw_in (by omega) (by omega)) (fun _ => by rw [(hw_RM_39 Rm)]; exact ⟨_, rfl⟩) hS (hw_AWi (hw_RM_39 Rm) (by decide)) dX12_work_40 (fun H locs hH v85 oq hz hS => ?_)
              have vm := va_at.kept vm (oq _ (hw_ne G0 (hw_RM_39 Rm) (by decide)))
              obtain ⟨x87, e88⟩ : ∃ y : Int32, y = y2_10 + 1 := ⟨_, rfl⟩
              refine lv_iinc (v := x87) (lv' := [(2, .int x87), (0, .ref h0), (1, .int p1)]) hx hb dX12_work_41 hl (k := 0) rfl (by rw [e88]; rfl) (by decide) rfl (fun ls hl => ?_)
              have t89 : x87.toInt = y2_10.toInt + 1 := by rw [e88]; exact hw_add rfl rfl (by omega) (by omega)
              refine lv_goto (tgt := 17) hx hb dX12_work_44 (by decide) ?_
              exact ih17 x87 (by first | omega | omega) ⟨by first | decide | omega, by first | decide | omega⟩ _ _ hH vm hS _ (lv_sub hl [0, 1, 2] rfl)
            · have b90 : y2_10.toInt = 0 := hw_ieq c82
              refine lv_iconst (v := 0) hx hb dX12_work_33 (by decide) ?_
              refine lv_goto (tgt := 40) hx hb dX12_work_34 (by decide) ?_
              obtain ⟨f91, v92⟩ := hH.a79 (hw_RM_39 Rm)
              refine hw_iast hx hb hK hH v92 (hw_in (by omega) (by omega)) (fun _ => by rw [(hw_RM_39 Rm)]; exact ⟨_, rfl⟩) hS (hw_AWi (hw_RM_39 Rm) (by decide)) dX12_work_40 (fun H locs hH v92 oq hz hS => ?_)
              have vm := va_at.kept vm (oq _ (hw_ne G0 (hw_RM_39 Rm) (by decide)))
              obtain ⟨x94, e95⟩ : ∃ y : Int32, y = y2_10 + 1 := ⟨_, rfl⟩
              refine lv_iinc (v := x94) (lv' := [(2, .int x94), (0, .ref h0), (1, .int p1)]) hx hb dX12_work_41 hl (k := 0) rfl (by rw [e95]; rfl) (by decide) rfl (fun ls hl => ?_)
              have t96 : x94.toInt = y2_10.toInt + 1 := by rw [e95]; exact hw_add rfl rfl (by omega) (by omega)
              refine lv_goto (tgt := 17) hx hb dX12_work_44 (by decide) ?_
              exact ih17 x94 (by first | omega | omega) ⟨by first | decide | omega, by first | decide | omega⟩ _ _ hH vm hS _ (lv_sub hl [0, 1, 2] rfl)
      exact L17 _ 0 (Nat.lt_succ_self _) ⟨by first | decide | omega, by first | decide | omega⟩ _ _ hH vm hS _ (lv_sub hl [0, 1, 2] rfl)
    · exact absurd c9 (by decide)
  · refine lv_if_ne (tgt := 15) hx hb dX12_work_9 (by decide) (fun c97 => ?_) (fun c97 => ?_)
    · exact absurd c97 (by decide)
    · refine lv_bipush (v := (-3)) hx hb dX12_work_12 (by decide) ?_
      exact hw_iretM (v := (-3)) hx hb hr hlocks hQ hS rfl (Or.inl ⟨rfl, hH, vm, (by first | rfl | trivial | assumption | omega | (intros; first | rfl | assumption | omega | (exfalso; omega)))⟩) dX12_work_14
