set_option maxHeartbeats 4000000 in
set_option maxRecDepth 100000 in
theorem k_X12_seen (l : Launch) (D : hw_D) (G : Nat → Nat) (h0 : Nat) (p1 : Int32) (p2 : Int32) (sz : Nat) (rm : Nat → Nat) (ud_m ky_m lo_m wk_m dk_m ln_m sm_m fi_m be_m rk_m rl_m rw_m cl_m dg_m : Int32) (G0 : G h0 = 9) (Rm : hw_RM G rm) (gud_m : 0 ≤ ud_m.toInt ∧ ud_m.toInt ≤ 8) (gky_m : 0 ≤ ky_m.toInt ∧ ky_m.toInt ≤ 7) (glo_m : 0 ≤ lo_m.toInt ∧ lo_m.toInt ≤ 7) (gwk_m : 0 ≤ wk_m.toInt ∧ wk_m.toInt ≤ 3) (gln_m : 0 ≤ ln_m.toInt ∧ ln_m.toInt ≤ 200) (gsm_m : 0 ≤ sm_m.toInt ∧ sm_m.toInt ≤ 6) (gfi_m : 0 ≤ fi_m.toInt ∧ fi_m.toInt ≤ 200) (gbe_m : 0 ≤ be_m.toInt ∧ be_m.toInt ≤ 200) (grk_m : 0 ≤ rk_m.toInt ∧ rk_m.toInt ≤ 7) (grl_m : 0 ≤ rl_m.toInt ∧ rl_m.toInt ≤ 7) (grw_m : 0 ≤ rw_m.toInt ∧ rw_m.toInt ≤ 3) (gdg_m : 0 ≤ dg_m.toInt ∧ dg_m.toInt ≤ 1) : Met l yX12_seen wsX12_seen ({ frames := 2, cells := 0, slots := 0, locals := 46 } : Room) (hw_PC D G [.ref h0, .int p1, .int p2] sz (fun H => va_at D.1 vwCl (h0, .inr (11, hw_LM rm ud_m ky_m lo_m wk_m dk_m ln_m sm_m fi_m be_m rk_m rl_m rw_m cl_m dg_m)) H)) (hw_QM (fun v H => ∃ (r : Int32) (sm_m2 : Int32), v = some (.int r) ∧ hw_HT D G H ∧ va_at D.1 vwCl (h0, .inr (11, hw_LM rm ud_m ky_m lo_m wk_m dk_m ln_m sm_m2 fi_m be_m rk_m rl_m rw_m cl_m dg_m)) H ∧ (0 ≤ sm_m2.toInt ∧ sm_m2.toInt ≤ 6) ∧ (lo_m.toInt = 0 → r.toInt = -2)) (hw_AW G [9, 58, 59] sz)) 0 0 (hw_AW G [9, 58, 59] sz) := by
  refine hw_met (cc := cX12_seen) (maxL := 3) (ret := (some .int)) (plainFor_of_name (by decide)) rfl (Nat.le_of_ble_eq_true rfl) ?_
  intro p e s m args below meth c QQ ls hsz hx hb hml hr hts hown hlocks hnm hH hK hST hF hQ hl
  subst hsz
  have hS : va_S (hw_AW G [9, 58, 59] s.heap.size) s.heap s.heap [] := va_S.rf
  have vm := hF
  have hl : lv_has ls 3 [(0, .ref h0), (1, .int p1), (2, .int p2)] := hl
  have u_11 : ∀ w ∈ u_ws RX12 TX12 45, w.before args s = true := fun w hw => hts w ((by decide +kernel : ∀ w ∈ u_ws RX12 TX12 45, w ∈ wsX12_seen) w hw)
  have fg_208_11 : hw_FG s args m 208 11 17 := ⟨RX12, "WardWalkersModel", RX12, TX12, 45, u_11, hown, rfl, by decide, (hts (.fieldLink RX12 208 "WardWalkersModel" "seenMany" "I") (by decide +kernel)), (fun _ h9 => h9)⟩
  have fg_48_11 : hw_FG s args m 48 11 18 := ⟨RX12, "WardWalkersModel", RX12, TX12, 45, u_11, hown, rfl, by decide, (hts (.fieldLink RX12 48 "WardWalkersModel" "seenLock" "[I") (by decide +kernel)), (fun _ h9 => h9)⟩
  have fg_51_11 : hw_FG s args m 51 11 19 := ⟨RX12, "WardWalkersModel", RX12, TX12, 45, u_11, hown, rfl, by decide, (hts (.fieldLink RX12 51 "WardWalkersModel" "seenWent" "[I") (by decide +kernel)), (fun _ h9 => h9)⟩
  have fp_208_11 : hw_FP s args m 208 11 17 false .int := ⟨RX12, "WardWalkersModel", RX12, TX12, 45, tyX12, u_11, hown, rfl, by decide, (hts (.fieldLink RX12 208 "WardWalkersModel" "seenMany" "I") (by decide +kernel)), (fun _ h9 => h9), tyX12_ok, nmX12, rfl, (fun h => by cases h), by decide +kernel⟩
  refine lv_aload_n hx hb dX12_seen_0 rfl (lv_at hl 0 rfl) ?_
  refine lv_iload_n hx hb dX12_seen_1 rfl (lv_at hl 1 rfl) ?_
  refine hw_cR (va_runV (As := [.int p1]) (rest := []) ⟨hx, hb, hml, hown, hts⟩ (k_X12_isLock l D G h0 p1 _ rm ud_m ky_m lo_m wk_m dk_m ln_m sm_m fi_m be_m rk_m rl_m rw_m cl_m dg_m G0 Rm ⟨by first | decide | omega, by first | decide | omega⟩ ⟨by first | decide | omega, by first | decide | omega⟩ ⟨by first | decide | omega, by first | decide | omega⟩ ⟨by first | decide | omega, by first | decide | omega⟩ ⟨by first | decide | omega, by first | decide | omega⟩ ⟨by first | decide | omega, by first | decide | omega⟩ ⟨by first | decide | omega, by first | decide | omega⟩ ⟨by first | decide | omega, by first | decide | omega⟩ ⟨by first | decide | omega, by first | decide | omega⟩ ⟨by first | decide | omega, by first | decide | omega⟩ ⟨by first | decide | omega, by first | decide | omega⟩ ⟨by first | decide | omega, by first | decide | omega⟩) (cwV 1 hts gX12_seen_X12_isLock rfl rfl rfl (by decide +kernel) ⟨Nat.le_of_ble_eq_true rfl, Nat.le_of_ble_eq_true rfl⟩) (hw_pV (hw_rc (q := (RX12, TX12, 45)) hK vm rfl) hH hK hST hS (by decide) (fun _ h => Or.inl h) vm) rfl rfl hl.1 rfl (lv_room (Nat.le_of_ble_eq_true rfl)) dX12_seen_2 ⟨Nat.le_of_ble_eq_true rfl, Nat.le_of_ble_eq_true rfl⟩) (fun v hp => ?_)
  rcases hp with ⟨rfl, q1⟩ | ⟨rfl, q2⟩
  · refine lv_if_ne (tgt := 11) hx hb dX12_seen_5 (by decide) (fun c3 => ?_) (fun c3 => ?_)
    · refine lv_iload_n hx hb dX12_seen_11 rfl (lv_at hl 2 rfl) ?_
      refine lv_i2l hx hb dX12_seen_12 rfl ?_
      refine lv_topl (fun x4 e5 => ?_)
      have t6 : x4.toInt = p2.toInt := by rw [e5]; exact hw_i2l _
      have rg7 := hw_rng p2
      refine lv_lconst (v := 0) hx hb dX12_seen_13 (by decide) ?_
      refine lv_lconst (v := 1) hx hb dX12_seen_14 (by decide) ?_
      refine hw_cR (va_runS (As := [.long x4, .long 0, .long 1]) (rest := []) ⟨hx, hb, hml, hown, hts⟩ (k_X12_in l D G x4 0 1 _) (va_cwS 3 hts gX12_seen_X12_in rfl rfl rfl (by decide +kernel) ⟨Nat.le_of_ble_eq_true rfl, Nat.le_of_ble_eq_true rfl⟩) (hw_pS hH hK hST hS (by decide) (fun _ h => Or.inl h) trivial) rfl rfl hl.1 rfl (lv_room (Nat.le_of_ble_eq_true rfl)) dX12_seen_15 ⟨Nat.le_of_ble_eq_true rfl, Nat.le_of_ble_eq_true rfl⟩) (fun v hp => ?_)
      have l8 : (0 : Int64).toInt = 0 := by decide
      have l9 : (1 : Int64).toInt = 1 := by decide
      rcases hp with ⟨rfl, q10⟩ | ⟨rfl, q11⟩
      · refine lv_if_ne (tgt := 24) hx hb dX12_seen_18 (by decide) (fun c12 => ?_) (fun c12 => ?_)
        · refine lv_aload_n hx hb dX12_seen_24 rfl (lv_at hl 0 rfl) ?_
          refine hw_get hx hb fg_208_11 hK vm rfl dX12_seen_25 ?_
          refine lv_bipush (v := 6) hx hb dX12_seen_28 (by decide) ?_
          refine lv_icmp_ne (tgt := 36) hx hb dX12_seen_30 (by decide) (fun c13 => ?_) (fun c13 => ?_)
          · have b14 : sm_m.toInt ≠ 6 := hw_ine c13
            refine lv_aload_n hx hb dX12_seen_36 rfl (lv_at hl 0 rfl) ?_
            refine hw_get hx hb fg_48_11 hK vm rfl dX12_seen_37 ?_
            refine lv_aload_n hx hb dX12_seen_40 rfl (lv_at hl 0 rfl) ?_
            refine hw_get hx hb fg_208_11 hK vm rfl dX12_seen_41 ?_
            refine lv_iload_n hx hb dX12_seen_44 rfl (lv_at hl 1 rfl) ?_
            obtain ⟨f15, v16, q17⟩ := hH.a58 (hw_RM_18 Rm)
            refine hw_iast hx hb hK hH v16 (hw_in (by omega) (by omega)) (fun _ => by rw [(hw_RM_18 Rm)]; refine ⟨_, rfl, fun j hj => ?_⟩; unfold upd; split; exact ⟨by first | decide | omega, by first | decide | omega⟩; exact q17 j hj) hS (hw_AWi (hw_RM_18 Rm) (by decide)) dX12_seen_45 (fun H locs hH v16 oq hz hS => ?_)
            have vm := va_at.kept vm (oq _ (hw_ne G0 (hw_RM_18 Rm) (by decide)))
            refine lv_aload_n hx hb dX12_seen_46 rfl (lv_at hl 0 rfl) ?_
            refine hw_get hx hb fg_51_11 hK vm rfl dX12_seen_47 ?_
            refine lv_aload_n hx hb dX12_seen_50 rfl (lv_at hl 0 rfl) ?_
            refine hw_get hx hb fg_208_11 hK vm rfl dX12_seen_51 ?_
            refine lv_iload_n hx hb dX12_seen_54 rfl (lv_at hl 2 rfl) ?_
            obtain ⟨f18, v19⟩ := hH.a59 (hw_RM_19 Rm)
            refine hw_iast hx hb hK hH v19 (hw_in (by omega) (by omega)) (fun _ => by rw [(hw_RM_19 Rm)]; exact ⟨_, rfl⟩) hS (hw_AWi (hw_RM_19 Rm) (by decide)) dX12_seen_55 (fun H locs hH v19 oq hz hS => ?_)
            have vm := va_at.kept vm (oq _ (hw_ne G0 (hw_RM_19 Rm) (by decide)))
            refine lv_aload_n hx hb dX12_seen_56 rfl (lv_at hl 0 rfl) ?_
            refine lv_dup hx hb dX12_seen_57 rfl ?_
            refine hw_get hx hb fg_208_11 hK vm rfl dX12_seen_58 ?_
            refine lv_iconst (v := 1) hx hb dX12_seen_61 (by decide) ?_
            refine lv_iadd hx hb dX12_seen_62 ?_
            refine lv_topi (fun x21 e22 => ?_)
            have t23 : x21.toInt = sm_m.toInt + 1 := by rw [e22]; exact hw_add rfl rfl (by omega) (by omega)
            refine hw_put (v := .int x21) (fs' := hw_LM rm ud_m ky_m lo_m wk_m dk_m ln_m x21 fi_m be_m rk_m rl_m rw_m cl_m dg_m) hx hb fp_208_11 hK hH vm (Nat.le_of_ble_eq_true rfl) rfl rfl rfl (fun _ => by rw [G0]; exact ⟨rm, ud_m, ky_m, lo_m, wk_m, dk_m, ln_m, x21, fi_m, be_m, rk_m, rl_m, rw_m, cl_m, dg_m, rfl, Rm, ⟨by first | decide | omega, by first | decide | omega⟩, ⟨by first | decide | omega, by first | decide | omega⟩, ⟨by first | decide | omega, by first | decide | omega⟩, ⟨by first | decide | omega, by first | decide | omega⟩, ⟨by first | decide | omega, by first | decide | omega⟩, ⟨by first | decide | omega, by first | decide | omega⟩, ⟨by first | decide | omega, by first | decide | omega⟩, ⟨by first | decide | omega, by first | decide | omega⟩, ⟨by first | decide | omega, by first | decide | omega⟩, ⟨by first | decide | omega, by first | decide | omega⟩, ⟨by first | decide | omega, by first | decide | omega⟩, ⟨by first | decide | omega, by first | decide | omega⟩⟩) hS (hw_AWi G0 (by decide)) dX12_seen_63 (fun H locs hH vm oq hz hS => ?_)
            refine lv_aload_n hx hb dX12_seen_66 rfl (lv_at hl 0 rfl) ?_
            refine hw_get hx hb fg_208_11 hK vm rfl dX12_seen_67 ?_
            exact hw_iretM (v := x21) hx hb hr hlocks hQ hS rfl (⟨x21, x21, rfl, hH, vm, ⟨by first | decide | omega, by first | decide | omega⟩, (by first | rfl | trivial | assumption | omega | (intros; first | rfl | assumption | omega | (exfalso; omega)))⟩) dX12_seen_70
          · have b24 : sm_m.toInt = 6 := hw_ieq c13
            refine lv_bipush (v := (-5)) hx hb dX12_seen_33 (by decide) ?_
            exact hw_iretM (v := (-5)) hx hb hr hlocks hQ hS rfl (⟨(-5), sm_m, rfl, hH, vm, ⟨by first | decide | omega, by first | decide | omega⟩, (by first | rfl | trivial | assumption | omega | (intros; first | rfl | assumption | omega | (exfalso; omega)))⟩) dX12_seen_35
        · exact absurd c12 (by decide)
      · refine lv_if_ne (tgt := 24) hx hb dX12_seen_18 (by decide) (fun c25 => ?_) (fun c25 => ?_)
        · exact absurd c25 (by decide)
        · refine lv_bipush (v := (-3)) hx hb dX12_seen_21 (by decide) ?_
          exact hw_iretM (v := (-3)) hx hb hr hlocks hQ hS rfl (⟨(-3), sm_m, rfl, hH, vm, ⟨by first | decide | omega, by first | decide | omega⟩, (by first | rfl | trivial | assumption | omega | (intros; first | rfl | assumption | omega | (exfalso; omega)))⟩) dX12_seen_23
    · exact absurd c3 (by decide)
  · refine lv_if_ne (tgt := 11) hx hb dX12_seen_5 (by decide) (fun c26 => ?_) (fun c26 => ?_)
    · exact absurd c26 (by decide)
    · refine lv_bipush (v := (-2)) hx hb dX12_seen_8 (by decide) ?_
      exact hw_iretM (v := (-2)) hx hb hr hlocks hQ hS rfl (⟨(-2), sm_m, rfl, hH, vm, ⟨by first | decide | omega, by first | decide | omega⟩, (by first | rfl | trivial | assumption | omega | (intros; first | rfl | assumption | omega | (exfalso; omega)))⟩) dX12_seen_10

set_option maxHeartbeats 4000000 in
set_option maxRecDepth 100000 in
theorem k_X12_forget (l : Launch) (D : hw_D) (G : Nat → Nat) (h0 : Nat) (sz : Nat) (rm : Nat → Nat) (ud_m ky_m lo_m wk_m dk_m ln_m sm_m fi_m be_m rk_m rl_m rw_m cl_m dg_m : Int32) (G0 : G h0 = 9) (Rm : hw_RM G rm) (gud_m : 0 ≤ ud_m.toInt ∧ ud_m.toInt ≤ 8) (gky_m : 0 ≤ ky_m.toInt ∧ ky_m.toInt ≤ 7) (glo_m : 0 ≤ lo_m.toInt ∧ lo_m.toInt ≤ 7) (gwk_m : 0 ≤ wk_m.toInt ∧ wk_m.toInt ≤ 3) (gln_m : 0 ≤ ln_m.toInt ∧ ln_m.toInt ≤ 200) (gsm_m : 0 ≤ sm_m.toInt ∧ sm_m.toInt ≤ 6) (gfi_m : 0 ≤ fi_m.toInt ∧ fi_m.toInt ≤ 200) (gbe_m : 0 ≤ be_m.toInt ∧ be_m.toInt ≤ 200) (grk_m : 0 ≤ rk_m.toInt ∧ rk_m.toInt ≤ 7) (grl_m : 0 ≤ rl_m.toInt ∧ rl_m.toInt ≤ 7) (grw_m : 0 ≤ rw_m.toInt ∧ rw_m.toInt ≤ 3) (gdg_m : 0 ≤ dg_m.toInt ∧ dg_m.toInt ≤ 1) : Met l yX12_forget wsX12_forget ({ frames := 0, cells := 0, slots := 0, locals := 0 } : Room) (hw_PC D G [.ref h0] sz (fun H => va_at D.1 vwCl (h0, .inr (11, hw_LM rm ud_m ky_m lo_m wk_m dk_m ln_m sm_m fi_m be_m rk_m rl_m rw_m cl_m dg_m)) H)) (hw_QM (fun v H => ∃ (r : Int32) (sm_m2 : Int32), v = some (.int r) ∧ hw_HT D G H ∧ va_at D.1 vwCl (h0, .inr (11, hw_LM rm ud_m ky_m lo_m wk_m dk_m ln_m sm_m2 fi_m be_m rk_m rl_m rw_m cl_m dg_m)) H ∧ (0 ≤ sm_m2.toInt ∧ sm_m2.toInt ≤ 6) ∧ r = sm_m) (hw_AW G [9] sz)) 0 0 (hw_AW G [9] sz) := by
  refine hw_met (cc := cX12_forget) (maxL := 2) (ret := (some .int)) (plainFor_of_name (by decide)) rfl (Nat.le_of_ble_eq_true rfl) ?_
  intro p e s m args below meth c QQ ls hsz hx hb hml hr hts hown hlocks hnm hH hK hST hF hQ hl
  subst hsz
  have hS : va_S (hw_AW G [9] s.heap.size) s.heap s.heap [] := va_S.rf
  have vm := hF
  have hl : lv_has ls 2 [(0, .ref h0)] := hl
  have u_11 : ∀ w ∈ u_ws RX12 TX12 45, w.before args s = true := fun w hw => hts w ((by decide +kernel : ∀ w ∈ u_ws RX12 TX12 45, w ∈ wsX12_forget) w hw)
  have fg_208_11 : hw_FG s args m 208 11 17 := ⟨RX12, "WardWalkersModel", RX12, TX12, 45, u_11, hown, rfl, by decide, (hts (.fieldLink RX12 208 "WardWalkersModel" "seenMany" "I") (by decide +kernel)), (fun _ h9 => h9)⟩
  have fp_208_11 : hw_FP s args m 208 11 17 false .int := ⟨RX12, "WardWalkersModel", RX12, TX12, 45, tyX12, u_11, hown, rfl, by decide, (hts (.fieldLink RX12 208 "WardWalkersModel" "seenMany" "I") (by decide +kernel)), (fun _ h9 => h9), tyX12_ok, nmX12, rfl, (fun h => by cases h), by decide +kernel⟩
  refine lv_aload_n hx hb dX12_forget_0 rfl (lv_at hl 0 rfl) ?_
  refine hw_get hx hb fg_208_11 hK vm rfl dX12_forget_1 ?_
  refine lv_istore_n (lv' := [(1, .int sm_m), (0, .ref h0)]) hx hb dX12_forget_4 rfl hl (by decide) rfl (fun ls hl => ?_)
  refine lv_aload_n hx hb dX12_forget_5 rfl (lv_at hl 1 rfl) ?_
  refine lv_iconst (v := 0) hx hb dX12_forget_6 (by decide) ?_
  refine hw_put (v := .int 0) (fs' := hw_LM rm ud_m ky_m lo_m wk_m dk_m ln_m 0 fi_m be_m rk_m rl_m rw_m cl_m dg_m) hx hb fp_208_11 hK hH vm (Nat.le_of_ble_eq_true rfl) rfl rfl rfl (fun _ => by rw [G0]; exact ⟨rm, ud_m, ky_m, lo_m, wk_m, dk_m, ln_m, 0, fi_m, be_m, rk_m, rl_m, rw_m, cl_m, dg_m, rfl, Rm, ⟨by first | decide | omega, by first | decide | omega⟩, ⟨by first | decide | omega, by first | decide | omega⟩, ⟨by first | decide | omega, by first | decide | omega⟩, ⟨by first | decide | omega, by first | decide | omega⟩, ⟨by first | decide | omega, by first | decide | omega⟩, ⟨by first | decide | omega, by first | decide | omega⟩, ⟨by first | decide | omega, by first | decide | omega⟩, ⟨by first | decide | omega, by first | decide | omega⟩, ⟨by first | decide | omega, by first | decide | omega⟩, ⟨by first | decide | omega, by first | decide | omega⟩, ⟨by first | decide | omega, by first | decide | omega⟩, ⟨by first | decide | omega, by first | decide | omega⟩⟩) hS (hw_AWi G0 (by decide)) dX12_forget_7 (fun H locs hH vm oq hz hS => ?_)
  refine lv_iload_n hx hb dX12_forget_10 rfl (lv_at hl 0 rfl) ?_
  exact hw_iretM (v := sm_m) hx hb hr hlocks hQ hS rfl (⟨sm_m, 0, rfl, hH, vm, ⟨by first | decide | omega, by first | decide | omega⟩, (by first | rfl | trivial | assumption | omega | (intros; first | rfl | assumption | omega | (exfalso; omega)))⟩) dX12_forget_11

set_option maxHeartbeats 4000000 in
set_option maxRecDepth 100000 in
theorem k_X12_isSeenSo (l : Launch) (D : hw_D) (G : Nat → Nat) (h0 : Nat) (p1 : Int32) (p2 : Int32) (sz : Nat) (rm : Nat → Nat) (ud_m ky_m lo_m wk_m dk_m ln_m sm_m fi_m be_m rk_m rl_m rw_m cl_m dg_m : Int32) (G0 : G h0 = 9) (Rm : hw_RM G rm) (gud_m : 0 ≤ ud_m.toInt ∧ ud_m.toInt ≤ 8) (gky_m : 0 ≤ ky_m.toInt ∧ ky_m.toInt ≤ 7) (glo_m : 0 ≤ lo_m.toInt ∧ lo_m.toInt ≤ 7) (gwk_m : 0 ≤ wk_m.toInt ∧ wk_m.toInt ≤ 3) (gln_m : 0 ≤ ln_m.toInt ∧ ln_m.toInt ≤ 200) (gsm_m : 0 ≤ sm_m.toInt ∧ sm_m.toInt ≤ 6) (gfi_m : 0 ≤ fi_m.toInt ∧ fi_m.toInt ≤ 200) (gbe_m : 0 ≤ be_m.toInt ∧ be_m.toInt ≤ 200) (grk_m : 0 ≤ rk_m.toInt ∧ rk_m.toInt ≤ 7) (grl_m : 0 ≤ rl_m.toInt ∧ rl_m.toInt ≤ 7) (grw_m : 0 ≤ rw_m.toInt ∧ rw_m.toInt ≤ 3) (gdg_m : 0 ≤ dg_m.toInt ∧ dg_m.toInt ≤ 1) : Met l yX12_isSeenSo wsX12_isSeenSo ({ frames := 2, cells := 0, slots := 0, locals := 45 } : Room) (hw_PC D G [.ref h0, .int p1, .int p2] sz (fun H => va_at D.1 vwCl (h0, .inr (11, hw_LM rm ud_m ky_m lo_m wk_m dk_m ln_m sm_m fi_m be_m rk_m rl_m rw_m cl_m dg_m)) H)) (hw_QR (fun v => (v = .int 1) ∨ (v = .int 0 ∧ 0 < sm_m.toInt))) 0 0 (fun _ => False) := by
  refine hw_met (cc := cX12_isSeenSo) (maxL := 5) (ret := (some .boolean)) (plainFor_of_name (by decide)) rfl (Nat.le_of_ble_eq_true rfl) ?_
  intro p e s m args below meth c QQ ls hsz hx hb hml hr hts hown hlocks hnm hH hK hST hF hQ hl
  subst hsz
  have hS : va_S (hw_AW G [] s.heap.size) s.heap s.heap [] := va_S.rf
  have vm := hF
  have hl : lv_has ls 5 [(0, .ref h0), (1, .int p1), (2, .int p2)] := hl
  have u_11 : ∀ w ∈ u_ws RX12 TX12 45, w.before args s = true := fun w hw => hts w ((by decide +kernel : ∀ w ∈ u_ws RX12 TX12 45, w ∈ wsX12_isSeenSo) w hw)
  have fg_208_11 : hw_FG s args m 208 11 17 := ⟨RX12, "WardWalkersModel", RX12, TX12, 45, u_11, hown, rfl, by decide, (hts (.fieldLink RX12 208 "WardWalkersModel" "seenMany" "I") (by decide +kernel)), (fun _ h9 => h9)⟩
  have fg_48_11 : hw_FG s args m 48 11 18 := ⟨RX12, "WardWalkersModel", RX12, TX12, 45, u_11, hown, rfl, by decide, (hts (.fieldLink RX12 48 "WardWalkersModel" "seenLock" "[I") (by decide +kernel)), (fun _ h9 => h9)⟩
  have fg_51_11 : hw_FG s args m 51 11 19 := ⟨RX12, "WardWalkersModel", RX12, TX12, 45, u_11, hown, rfl, by decide, (hts (.fieldLink RX12 51 "WardWalkersModel" "seenWent" "[I") (by decide +kernel)), (fun _ h9 => h9)⟩
  refine lv_iconst (v := 1) hx hb dX12_isSeenSo_0 (by decide) ?_
  refine lv_istore_n (lv' := [(3, .int 1), (0, .ref h0), (1, .int p1), (2, .int p2)]) hx hb dX12_isSeenSo_1 rfl hl (by decide) rfl (fun ls hl => ?_)
  refine lv_iconst (v := 0) hx hb dX12_isSeenSo_2 (by decide) ?_
  refine lv_istore (lv' := [(4, .int 0), (3, .int 1), (0, .ref h0), (1, .int p1), (2, .int p2)]) hx hb dX12_isSeenSo_3 hl (by decide) rfl (fun ls hl => ?_)
  have L5 : ∀ (n5 : Nat) (y4_1 : Int32) (y3_2 : Int32) (hm : (6 - y4_1.toInt).toNat < n5) (g3 : 0 ≤ y3_2.toInt ∧ y3_2.toInt ≤ 1) (g4 : 0 ≤ y4_1.toInt ∧ y4_1.toInt ≤ 6) (inv5_0 : sm_m.toInt = 0 → y3_2.toInt = 1) (ls : Array Slot) (hl : lv_has ls 5 [(4, .int y4_1), (3, .int y3_2), (0, .ref h0), (1, .int p1), (2, .int p2)]), W p l e ({ frames := 2, cells := 0, slots := 0, locals := 45 } : Room) s m args below meth c s.heap [] 0 0 QQ (F0 m 5 ls []) := by
    intro n5
    induction n5 with
    | zero => intro y4_1 y3_2 hm; exact absurd hm (Nat.not_lt_zero _)
    | succ n5 ih5 =>
      intro y4_1 y3_2 hm g3 g4 inv5_0 ls hl
      refine lv_iload hx hb dX12_isSeenSo_5 (lv_at hl 0 rfl) ?_
      refine lv_aload_n hx hb dX12_isSeenSo_7 rfl (lv_at hl 2 rfl) ?_
      refine hw_get hx hb fg_208_11 hK vm rfl dX12_isSeenSo_8 ?_
      refine lv_icmp_ge (tgt := 62) hx hb dX12_isSeenSo_11 (by decide) (fun c6 => ?_) (fun c6 => ?_)
      · have b7 : sm_m.toInt ≤ y4_1.toInt := hw_ile c6
        refine lv_iload_n hx hb dX12_isSeenSo_62 rfl (lv_at hl 1 rfl) ?_
        rcases (hw_z01 (x := y3_2) (by omega)) with w8 | w8
        · have b9 : y3_2.toInt = 0 := hw_ieq w8
          rw [w8]
          exact hw_iretR (v := 0) hx hb hr hlocks hQ rfl (Or.inr (⟨rfl, (by first | rfl | trivial | assumption | omega | (intros; first | rfl | assumption | omega | (exfalso; omega)))⟩)) dX12_isSeenSo_63
        · have b10 : y3_2.toInt = 1 := hw_ieq w8
          rw [w8]
          exact hw_iretR (v := 1) hx hb hr hlocks hQ rfl (Or.inl rfl) dX12_isSeenSo_63
      · have b11 : y4_1.toInt < sm_m.toInt := hw_inle c6
        refine lv_iload_n hx hb dX12_isSeenSo_14 rfl (lv_at hl 1 rfl) ?_
        refine lv_if_eq (tgt := 54) hx hb dX12_isSeenSo_15 (by decide) (fun c12 => ?_) (fun c12 => ?_)
        · have b13 : y3_2.toInt = 0 := hw_ieq c12
          refine lv_iconst (v := 0) hx hb dX12_isSeenSo_54 (by decide) ?_
          refine lv_istore_n (lv' := [(3, .int 0), (4, .int y4_1), (0, .ref h0), (1, .int p1), (2, .int p2)]) hx hb dX12_isSeenSo_55 rfl hl (by decide) rfl (fun ls hl => ?_)
          obtain ⟨x14, e15⟩ : ∃ y : Int32, y = y4_1 + 1 := ⟨_, rfl⟩
          refine lv_iinc (v := x14) (lv' := [(4, .int x14), (3, .int 0), (0, .ref h0), (1, .int p1), (2, .int p2)]) hx hb dX12_isSeenSo_56 hl (k := 1) rfl (by rw [e15]; rfl) (by decide) rfl (fun ls hl => ?_)
          have t16 : x14.toInt = y4_1.toInt + 1 := by rw [e15]; exact hw_add rfl rfl (by omega) (by omega)
          refine lv_goto (tgt := 5) hx hb dX12_isSeenSo_59 (by decide) ?_
          exact ih5 x14 0 (by first | omega | omega) ⟨by first | decide | omega, by first | decide | omega⟩ ⟨by first | decide | omega, by first | decide | omega⟩ (by first | assumption | omega | decide | rfl | (intros; first | rfl | assumption | omega)) _ (lv_sub hl [0, 1, 2, 3, 4] rfl)
        · have b17 : y3_2.toInt ≠ 0 := hw_ine c12
          refine lv_aload_n hx hb dX12_isSeenSo_18 rfl (lv_at hl 2 rfl) ?_
          refine lv_iload_n hx hb dX12_isSeenSo_19 rfl (lv_at hl 3 rfl) ?_
          refine lv_iload_n hx hb dX12_isSeenSo_20 rfl (lv_at hl 4 rfl) ?_
          refine lv_aload_n hx hb dX12_isSeenSo_21 rfl (lv_at hl 2 rfl) ?_
          refine hw_get hx hb fg_48_11 hK vm rfl dX12_isSeenSo_22 ?_
          refine lv_iload hx hb dX12_isSeenSo_25 (lv_at hl 0 rfl) ?_
          obtain ⟨f18, v19, q20⟩ := hH.a58 (hw_RM_18 Rm)
          refine hw_iald hx hb hK v19 (hw_in (by omega) (by omega)) dX12_isSeenSo_27 ?_
          refine lv_topi (fun x21 e22 => ?_)
          have n24 : vp_in y4_1 6 := (hw_in (by omega) (by omega))
          have t23 : 0 ≤ x21.toInt ∧ x21.toInt ≤ 6 := by rw [e22]; exact q20 _ (Nat.not_le.mp fun q => n24 (Or.inr q))
          refine hw_cR (va_runV (As := [.int p1, .int p2, .int x21]) (rest := []) ⟨hx, hb, hml, hown, hts⟩ (k_X12_goesBy l D G h0 p1 p2 x21 _ G0 (by first | assumption | decide | omega)) (cwV 3 hts gX12_isSeenSo_X12_goesBy rfl rfl rfl (by decide +kernel) ⟨Nat.le_of_ble_eq_true rfl, Nat.le_of_ble_eq_true rfl⟩) (hw_pV (hw_rc (q := (RX12, TX12, 45)) hK vm rfl) hH hK hST hS (by decide) (fun _ h => Or.inl h) trivial) rfl rfl hl.1 rfl (lv_room (Nat.le_of_ble_eq_true rfl)) dX12_isSeenSo_28 ⟨Nat.le_of_ble_eq_true rfl, Nat.le_of_ble_eq_true rfl⟩) (fun v hp => ?_)
          rcases hp with rfl | rfl
          · refine lv_aload_n hx hb dX12_isSeenSo_31 rfl (lv_at hl 2 rfl) ?_
            refine hw_get hx hb fg_51_11 hK vm rfl dX12_isSeenSo_32 ?_
            refine lv_iload hx hb dX12_isSeenSo_35 (lv_at hl 0 rfl) ?_
            obtain ⟨f25, v26⟩ := hH.a59 (hw_RM_19 Rm)
            refine hw_iald hx hb hK v26 (hw_in (by omega) (by omega)) dX12_isSeenSo_37 ?_
            refine lv_topi (fun x28 e29 => ?_)
            refine lv_iconst (v := 1) hx hb dX12_isSeenSo_38 (by decide) ?_
            refine lv_icmp_ne (tgt := 46) hx hb dX12_isSeenSo_39 (by decide) (fun c30 => ?_) (fun c30 => ?_)
            · have b31 : x28.toInt ≠ 1 := hw_ine c30
              refine lv_iconst (v := 0) hx hb dX12_isSeenSo_46 (by decide) ?_
              refine lv_icmp_ne (tgt := 54) hx hb dX12_isSeenSo_47 (by decide) (fun c32 => ?_) (fun c32 => ?_)
              · refine lv_iconst (v := 0) hx hb dX12_isSeenSo_54 (by decide) ?_
                refine lv_istore_n (lv' := [(3, .int 0), (4, .int y4_1), (0, .ref h0), (1, .int p1), (2, .int p2)]) hx hb dX12_isSeenSo_55 rfl hl (by decide) rfl (fun ls hl => ?_)
                obtain ⟨x33, e34⟩ : ∃ y : Int32, y = y4_1 + 1 := ⟨_, rfl⟩
                refine lv_iinc (v := x33) (lv' := [(4, .int x33), (3, .int 0), (0, .ref h0), (1, .int p1), (2, .int p2)]) hx hb dX12_isSeenSo_56 hl (k := 1) rfl (by rw [e34]; rfl) (by decide) rfl (fun ls hl => ?_)
                have t35 : x33.toInt = y4_1.toInt + 1 := by rw [e34]; exact hw_add rfl rfl (by omega) (by omega)
                refine lv_goto (tgt := 5) hx hb dX12_isSeenSo_59 (by decide) ?_
                exact ih5 x33 0 (by first | omega | omega) ⟨by first | decide | omega, by first | decide | omega⟩ ⟨by first | decide | omega, by first | decide | omega⟩ (by first | assumption | omega | decide | rfl | (intros; first | rfl | assumption | omega)) _ (lv_sub hl [0, 1, 2, 3, 4] rfl)
              · exact absurd c32 (by decide)
            · have b36 : x28.toInt = 1 := hw_ieq c30
              refine lv_iconst (v := 1) hx hb dX12_isSeenSo_42 (by decide) ?_
              refine lv_goto (tgt := 47) hx hb dX12_isSeenSo_43 (by decide) ?_
              refine lv_icmp_ne (tgt := 54) hx hb dX12_isSeenSo_47 (by decide) (fun c37 => ?_) (fun c37 => ?_)
              · exact absurd c37 (by decide)
              · refine lv_iconst (v := 1) hx hb dX12_isSeenSo_50 (by decide) ?_
                refine lv_goto (tgt := 55) hx hb dX12_isSeenSo_51 (by decide) ?_
                refine lv_istore_n (lv' := [(3, .int 1), (4, .int y4_1), (0, .ref h0), (1, .int p1), (2, .int p2)]) hx hb dX12_isSeenSo_55 rfl hl (by decide) rfl (fun ls hl => ?_)
                obtain ⟨x38, e39⟩ : ∃ y : Int32, y = y4_1 + 1 := ⟨_, rfl⟩
                refine lv_iinc (v := x38) (lv' := [(4, .int x38), (3, .int 1), (0, .ref h0), (1, .int p1), (2, .int p2)]) hx hb dX12_isSeenSo_56 hl (k := 1) rfl (by rw [e39]; rfl) (by decide) rfl (fun ls hl => ?_)
                have t40 : x38.toInt = y4_1.toInt + 1 := by rw [e39]; exact hw_add rfl rfl (by omega) (by omega)
                refine lv_goto (tgt := 5) hx hb dX12_isSeenSo_59 (by decide) ?_
                exact ih5 x38 1 (by first | omega | omega) ⟨by first | decide | omega, by first | decide | omega⟩ ⟨by first | decide | omega, by first | decide | omega⟩ (by first | assumption | omega | decide | rfl | (intros; first | rfl | assumption | omega)) _ (lv_sub hl [0, 1, 2, 3, 4] rfl)
          · refine lv_aload_n hx hb dX12_isSeenSo_31 rfl (lv_at hl 2 rfl) ?_
            refine hw_get hx hb fg_51_11 hK vm rfl dX12_isSeenSo_32 ?_
            refine lv_iload hx hb dX12_isSeenSo_35 (lv_at hl 0 rfl) ?_
            obtain ⟨f41, v42⟩ := hH.a59 (hw_RM_19 Rm)
            refine hw_iald hx hb hK v42 (hw_in (by omega) (by omega)) dX12_isSeenSo_37 ?_
            refine lv_topi (fun x44 e45 => ?_)
            refine lv_iconst (v := 1) hx hb dX12_isSeenSo_38 (by decide) ?_
            refine lv_icmp_ne (tgt := 46) hx hb dX12_isSeenSo_39 (by decide) (fun c46 => ?_) (fun c46 => ?_)
            · have b47 : x44.toInt ≠ 1 := hw_ine c46
              refine lv_iconst (v := 0) hx hb dX12_isSeenSo_46 (by decide) ?_
              refine lv_icmp_ne (tgt := 54) hx hb dX12_isSeenSo_47 (by decide) (fun c48 => ?_) (fun c48 => ?_)
              · exact absurd c48 (by decide)
              · refine lv_iconst (v := 1) hx hb dX12_isSeenSo_50 (by decide) ?_
                refine lv_goto (tgt := 55) hx hb dX12_isSeenSo_51 (by decide) ?_
                refine lv_istore_n (lv' := [(3, .int 1), (4, .int y4_1), (0, .ref h0), (1, .int p1), (2, .int p2)]) hx hb dX12_isSeenSo_55 rfl hl (by decide) rfl (fun ls hl => ?_)
                obtain ⟨x49, e50⟩ : ∃ y : Int32, y = y4_1 + 1 := ⟨_, rfl⟩
                refine lv_iinc (v := x49) (lv' := [(4, .int x49), (3, .int 1), (0, .ref h0), (1, .int p1), (2, .int p2)]) hx hb dX12_isSeenSo_56 hl (k := 1) rfl (by rw [e50]; rfl) (by decide) rfl (fun ls hl => ?_)
                have t51 : x49.toInt = y4_1.toInt + 1 := by rw [e50]; exact hw_add rfl rfl (by omega) (by omega)
                refine lv_goto (tgt := 5) hx hb dX12_isSeenSo_59 (by decide) ?_
                exact ih5 x49 1 (by first | omega | omega) ⟨by first | decide | omega, by first | decide | omega⟩ ⟨by first | decide | omega, by first | decide | omega⟩ (by first | assumption | omega | decide | rfl | (intros; first | rfl | assumption | omega)) _ (lv_sub hl [0, 1, 2, 3, 4] rfl)
            · have b52 : x44.toInt = 1 := hw_ieq c46
              refine lv_iconst (v := 1) hx hb dX12_isSeenSo_42 (by decide) ?_
              refine lv_goto (tgt := 47) hx hb dX12_isSeenSo_43 (by decide) ?_
              refine lv_icmp_ne (tgt := 54) hx hb dX12_isSeenSo_47 (by decide) (fun c53 => ?_) (fun c53 => ?_)
              · refine lv_iconst (v := 0) hx hb dX12_isSeenSo_54 (by decide) ?_
                refine lv_istore_n (lv' := [(3, .int 0), (4, .int y4_1), (0, .ref h0), (1, .int p1), (2, .int p2)]) hx hb dX12_isSeenSo_55 rfl hl (by decide) rfl (fun ls hl => ?_)
                obtain ⟨x54, e55⟩ : ∃ y : Int32, y = y4_1 + 1 := ⟨_, rfl⟩
                refine lv_iinc (v := x54) (lv' := [(4, .int x54), (3, .int 0), (0, .ref h0), (1, .int p1), (2, .int p2)]) hx hb dX12_isSeenSo_56 hl (k := 1) rfl (by rw [e55]; rfl) (by decide) rfl (fun ls hl => ?_)
                have t56 : x54.toInt = y4_1.toInt + 1 := by rw [e55]; exact hw_add rfl rfl (by omega) (by omega)
                refine lv_goto (tgt := 5) hx hb dX12_isSeenSo_59 (by decide) ?_
                exact ih5 x54 0 (by first | omega | omega) ⟨by first | decide | omega, by first | decide | omega⟩ ⟨by first | decide | omega, by first | decide | omega⟩ (by first | assumption | omega | decide | rfl | (intros; first | rfl | assumption | omega)) _ (lv_sub hl [0, 1, 2, 3, 4] rfl)
              · exact absurd c53 (by decide)
  exact L5 _ 0 1 (Nat.lt_succ_self _) ⟨by first | decide | omega, by first | decide | omega⟩ ⟨by first | decide | omega, by first | decide | omega⟩ (by first | assumption | omega | decide | rfl | (intros; first | rfl | assumption | omega)) _ (lv_sub hl [0, 1, 2, 3, 4] rfl)

set_option maxHeartbeats 4000000 in
set_option maxRecDepth 100000 in
theorem k_X12_cuts (l : Launch) (D : hw_D) (G : Nat → Nat) (h0 : Nat) (p1 : Int32) (sz : Nat) (rm : Nat → Nat) (ud_m ky_m lo_m wk_m dk_m ln_m sm_m fi_m be_m rk_m rl_m rw_m cl_m dg_m : Int32) (G0 : G h0 = 9) (Rm : hw_RM G rm) (gud_m : 0 ≤ ud_m.toInt ∧ ud_m.toInt ≤ 8) (gky_m : 0 ≤ ky_m.toInt ∧ ky_m.toInt ≤ 7) (glo_m : 0 ≤ lo_m.toInt ∧ lo_m.toInt ≤ 7) (gwk_m : 0 ≤ wk_m.toInt ∧ wk_m.toInt ≤ 3) (gln_m : 0 ≤ ln_m.toInt ∧ ln_m.toInt ≤ 200) (gsm_m : 0 ≤ sm_m.toInt ∧ sm_m.toInt ≤ 6) (gfi_m : 0 ≤ fi_m.toInt ∧ fi_m.toInt ≤ 200) (gbe_m : 0 ≤ be_m.toInt ∧ be_m.toInt ≤ 200) (grk_m : 0 ≤ rk_m.toInt ∧ rk_m.toInt ≤ 7) (grl_m : 0 ≤ rl_m.toInt ∧ rl_m.toInt ≤ 7) (grw_m : 0 ≤ rw_m.toInt ∧ rw_m.toInt ≤ 3) (gdg_m : 0 ≤ dg_m.toInt ∧ dg_m.toInt ≤ 1) : Met l yX12_cuts wsX12_cuts ({ frames := 3, cells := 0, slots := 0, locals := 69 } : Room) (hw_PC D G [.ref h0, .int p1] sz (fun H => va_at D.1 vwCl (h0, .inr (11, hw_LM rm ud_m ky_m lo_m wk_m dk_m ln_m sm_m fi_m be_m rk_m rl_m rw_m cl_m dg_m)) H)) (hw_QR (fun v => (v = .int (-3) ∧ (p1.toInt < 0 ∨ 2 < p1.toInt)) ∨ (∃ (r : Int32), v = .int r ∧ (0 ≤ p1.toInt ∧ p1.toInt ≤ 2) ∧ (sm_m.toInt = 0 → p1.toInt = 0 → r.toInt = 512) ∧ (sm_m.toInt = 0 → p1.toInt = 1 → r.toInt = 0) ∧ (sm_m.toInt = 0 → p1.toInt = 2 → r.toInt = 511)))) 0 0 (fun _ => False) := by
  refine hw_met (cc := cX12_cuts) (maxL := 6) (ret := (some .int)) (plainFor_of_name (by decide)) rfl (Nat.le_of_ble_eq_true rfl) ?_
  intro p e s m args below meth c QQ ls hsz hx hb hml hr hts hown hlocks hnm hH hK hST hF hQ hl
  subst hsz
  have hS : va_S (hw_AW G [] s.heap.size) s.heap s.heap [] := va_S.rf
  have vm := hF
  have hl : lv_has ls 6 [(0, .ref h0), (1, .int p1)] := hl
  refine lv_iload_n hx hb dX12_cuts_0 rfl (lv_at hl 1 rfl) ?_
  refine lv_i2l hx hb dX12_cuts_1 rfl ?_
  refine lv_topl (fun x1 e2 => ?_)
  have t3 : x1.toInt = p1.toInt := by rw [e2]; exact hw_i2l _
  have rg4 := hw_rng p1
  refine lv_lconst (v := 0) hx hb dX12_cuts_2 (by decide) ?_
  refine lv_ldc2 (v := 2) hx hb hown (hts (.constantLong RX12 296 (2)) (by decide +kernel)) dX12_cuts_3 ?_
  refine hw_cR (va_runS (As := [.long x1, .long 0, .long 2]) (rest := []) ⟨hx, hb, hml, hown, hts⟩ (k_X12_in l D G x1 0 2 _) (va_cwS 3 hts gX12_cuts_X12_in rfl rfl rfl (by decide +kernel) ⟨Nat.le_of_ble_eq_true rfl, Nat.le_of_ble_eq_true rfl⟩) (hw_pS hH hK hST hS (by decide) (fun _ h => Or.inl h) trivial) rfl rfl hl.1 rfl (lv_room (Nat.le_of_ble_eq_true rfl)) dX12_cuts_6 ⟨Nat.le_of_ble_eq_true rfl, Nat.le_of_ble_eq_true rfl⟩) (fun v hp => ?_)
  have l5 : (0 : Int64).toInt = 0 := by decide
  have l6 : (2 : Int64).toInt = 2 := by decide
  rcases hp with ⟨rfl, q7⟩ | ⟨rfl, q8⟩
  · refine lv_if_ne (tgt := 15) hx hb dX12_cuts_9 (by decide) (fun c9 => ?_) (fun c9 => ?_)
    · refine lv_iconst (v := 0) hx hb dX12_cuts_15 (by decide) ?_
      refine lv_istore_n (lv' := [(2, .int 0), (0, .ref h0), (1, .int p1)]) hx hb dX12_cuts_16 rfl hl (by decide) rfl (fun ls hl => ?_)
      refine lv_sipush (v := 511) hx hb dX12_cuts_17 (by decide) ?_
      refine lv_istore_n (lv' := [(3, .int 511), (2, .int 0), (0, .ref h0), (1, .int p1)]) hx hb dX12_cuts_20 rfl hl (by decide) rfl (fun ls hl => ?_)
      refine lv_iconst (v := 0) hx hb dX12_cuts_21 (by decide) ?_
      refine lv_istore (lv' := [(4, .int 0), (3, .int 511), (2, .int 0), (0, .ref h0), (1, .int p1)]) hx hb dX12_cuts_22 hl (by decide) rfl (fun ls hl => ?_)
      refine lv_iconst (v := 0) hx hb dX12_cuts_24 (by decide) ?_
      refine lv_istore (lv' := [(5, .int 0), (4, .int 0), (3, .int 511), (2, .int 0), (0, .ref h0), (1, .int p1)]) hx hb dX12_cuts_25 hl (by decide) rfl (fun ls hl => ?_)
      have L27 : ∀ (n16 : Nat) (y5_10 : Int32) (y4_11 : Int32) (y3_12 : Int32) (y2_13 : Int32) (hm : (512 - y5_10.toInt).toNat < n16) (g14 : 0 ≤ y2_13.toInt ∧ y2_13.toInt ≤ 512) (g15 : 0 ≤ y5_10.toInt ∧ y5_10.toInt ≤ 512) (inv27_0 : sm_m.toInt = 0 → y2_13.toInt = y5_10.toInt) (inv27_1 : sm_m.toInt = 0 → y3_12 = hw_andU y5_10.toNatClampNeg) (inv27_2 : sm_m.toInt = 0 → y4_11 = hw_orU y5_10.toNatClampNeg) (inv27_3 : 0 ≤ y2_13.toInt ∧ y2_13.toInt ≤ y5_10.toInt) (ls : Array Slot) (hl : lv_has ls 6 [(5, .int y5_10), (4, .int y4_11), (3, .int y3_12), (2, .int y2_13), (0, .ref h0), (1, .int p1)]), W p l e ({ frames := 3, cells := 0, slots := 0, locals := 69 } : Room) s m args below meth c s.heap [] 0 0 QQ (F0 m 27 ls []) := by
        intro n16
        induction n16 with
        | zero => intro y5_10 y4_11 y3_12 y2_13 hm; exact absurd hm (Nat.not_lt_zero _)
        | succ n16 ih27 =>
          intro y5_10 y4_11 y3_12 y2_13 hm g14 g15 inv27_0 inv27_1 inv27_2 inv27_3 ls hl
          refine lv_iload hx hb dX12_cuts_27 (lv_at hl 0 rfl) ?_
          refine lv_sipush (v := 512) hx hb dX12_cuts_29 (by decide) ?_
          refine lv_icmp_ge (tgt := 66) hx hb dX12_cuts_32 (by decide) (fun c17 => ?_) (fun c17 => ?_)
          · have b18 : 512 ≤ y5_10.toInt := hw_ile c17
            refine lv_iload_n hx hb dX12_cuts_66 rfl (lv_at hl 5 rfl) ?_
            refine lv_if_ne (tgt := 74) hx hb dX12_cuts_67 (by decide) (fun c19 => ?_) (fun c19 => ?_)
            · have b20 : p1.toInt ≠ 0 := hw_ine c19
              refine lv_iload_n hx hb dX12_cuts_74 rfl (lv_at hl 3 rfl) ?_
              refine lv_if_ne (tgt := 82) hx hb dX12_cuts_75 (by decide) (fun c21 => ?_) (fun c21 => ?_)
              · have b22 : y2_13.toInt ≠ 0 := hw_ine c21
                refine lv_iload_n hx hb dX12_cuts_82 rfl (lv_at hl 5 rfl) ?_
                refine lv_iconst (v := 1) hx hb dX12_cuts_83 (by decide) ?_
                refine lv_icmp_ne (tgt := 91) hx hb dX12_cuts_84 (by decide) (fun c23 => ?_) (fun c23 => ?_)
                · have b24 : p1.toInt ≠ 1 := hw_ine c23
                  refine lv_iload hx hb dX12_cuts_91 (lv_at hl 1 rfl) ?_
                  exact hw_iretR (v := y4_11) hx hb hr hlocks hQ rfl (Or.inr (⟨y4_11, rfl, (by first | rfl | trivial | assumption | omega | (intros; first | rfl | assumption | omega | (exfalso; omega))), (by first | rfl | trivial | assumption | omega | (intros; first | rfl | assumption | omega | (exfalso; omega))), (by intro h9 h8; first | (exfalso; omega) | (have h7 := inv27_1 h9; rw [hw_cl (x := y5_10) (n := 512) (by omega), hw_andU_512] at h7; exact hw_ieq h7)), (by intro h9 h8; first | (exfalso; omega) | (have h7 := inv27_2 h9; rw [hw_cl (x := y5_10) (n := 512) (by omega), hw_orU_512] at h7; exact hw_ieq h7))⟩)) dX12_cuts_93
                · have b25 : p1.toInt = 1 := hw_ieq c23
                  refine lv_iload_n hx hb dX12_cuts_87 rfl (lv_at hl 2 rfl) ?_
                  refine lv_goto (tgt := 93) hx hb dX12_cuts_88 (by decide) ?_
                  exact hw_iretR (v := y3_12) hx hb hr hlocks hQ rfl (Or.inr (⟨y3_12, rfl, (by first | rfl | trivial | assumption | omega | (intros; first | rfl | assumption | omega | (exfalso; omega))), (by first | rfl | trivial | assumption | omega | (intros; first | rfl | assumption | omega | (exfalso; omega))), (by intro h9 h8; first | (exfalso; omega) | (have h7 := inv27_1 h9; rw [hw_cl (x := y5_10) (n := 512) (by omega), hw_andU_512] at h7; exact hw_ieq h7)), (by intro h9 h8; first | (exfalso; omega) | (have h7 := inv27_2 h9; rw [hw_cl (x := y5_10) (n := 512) (by omega), hw_orU_512] at h7; exact hw_ieq h7))⟩)) dX12_cuts_93
              · have b26 : y2_13.toInt = 0 := hw_ieq c21
                refine lv_iconst (v := 0) hx hb dX12_cuts_78 (by decide) ?_
                refine lv_goto (tgt := 93) hx hb dX12_cuts_79 (by decide) ?_
                exact hw_iretR (v := 0) hx hb hr hlocks hQ rfl (Or.inr (⟨0, rfl, (by first | rfl | trivial | assumption | omega | (intros; first | rfl | assumption | omega | (exfalso; omega))), (by first | rfl | trivial | assumption | omega | (intros; first | rfl | assumption | omega | (exfalso; omega))), (by intro h9 h8; first | (exfalso; omega) | (have h7 := inv27_1 h9; rw [hw_cl (x := y5_10) (n := 512) (by omega), hw_andU_512] at h7; exact hw_ieq h7)), (by intro h9 h8; first | (exfalso; omega) | (have h7 := inv27_2 h9; rw [hw_cl (x := y5_10) (n := 512) (by omega), hw_orU_512] at h7; exact hw_ieq h7))⟩)) dX12_cuts_93
            · have b27 : p1.toInt = 0 := hw_ieq c19
              refine lv_iload_n hx hb dX12_cuts_70 rfl (lv_at hl 3 rfl) ?_
              refine lv_goto (tgt := 93) hx hb dX12_cuts_71 (by decide) ?_
              exact hw_iretR (v := y2_13) hx hb hr hlocks hQ rfl (Or.inr (⟨y2_13, rfl, (by first | rfl | trivial | assumption | omega | (intros; first | rfl | assumption | omega | (exfalso; omega))), (by first | rfl | trivial | assumption | omega | (intros; first | rfl | assumption | omega | (exfalso; omega))), (by intro h9 h8; first | (exfalso; omega) | (have h7 := inv27_1 h9; rw [hw_cl (x := y5_10) (n := 512) (by omega), hw_andU_512] at h7; exact hw_ieq h7)), (by intro h9 h8; first | (exfalso; omega) | (have h7 := inv27_2 h9; rw [hw_cl (x := y5_10) (n := 512) (by omega), hw_orU_512] at h7; exact hw_ieq h7))⟩)) dX12_cuts_93
          · have b28 : y5_10.toInt < 512 := hw_inle c17
            refine lv_aload_n hx hb dX12_cuts_35 rfl (lv_at hl 4 rfl) ?_
            refine lv_iconst (v := 0) hx hb dX12_cuts_36 (by decide) ?_
            refine lv_iload hx hb dX12_cuts_37 (lv_at hl 0 rfl) ?_
            refine hw_cR (va_runV (As := [.int 0, .int y5_10]) (rest := []) ⟨hx, hb, hml, hown, hts⟩ (k_X12_isSeenSo l D G h0 0 y5_10 _ rm ud_m ky_m lo_m wk_m dk_m ln_m sm_m fi_m be_m rk_m rl_m rw_m cl_m dg_m G0 Rm ⟨by first | decide | omega, by first | decide | omega⟩ ⟨by first | decide | omega, by first | decide | omega⟩ ⟨by first | decide | omega, by first | decide | omega⟩ ⟨by first | decide | omega, by first | decide | omega⟩ ⟨by first | decide | omega, by first | decide | omega⟩ ⟨by first | decide | omega, by first | decide | omega⟩ ⟨by first | decide | omega, by first | decide | omega⟩ ⟨by first | decide | omega, by first | decide | omega⟩ ⟨by first | decide | omega, by first | decide | omega⟩ ⟨by first | decide | omega, by first | decide | omega⟩ ⟨by first | decide | omega, by first | decide | omega⟩ ⟨by first | decide | omega, by first | decide | omega⟩) (cwV 2 hts gX12_cuts_X12_isSeenSo rfl rfl rfl (by decide +kernel) ⟨Nat.le_of_ble_eq_true rfl, Nat.le_of_ble_eq_true rfl⟩) (hw_pV (hw_rc (q := (RX12, TX12, 45)) hK vm rfl) hH hK hST hS (by decide) (fun _ h => Or.inl h) vm) rfl rfl hl.1 rfl (lv_room (Nat.le_of_ble_eq_true rfl)) dX12_cuts_39 ⟨Nat.le_of_ble_eq_true rfl, Nat.le_of_ble_eq_true rfl⟩) (fun v hp => ?_)
            have l29 : (0 : Int32).toInt = 0 := rfl
            rcases hp with rfl | ⟨rfl, q30⟩
            · refine lv_if_eq (tgt := 60) hx hb dX12_cuts_42 (by decide) (fun c31 => ?_) (fun c31 => ?_)
              · exact absurd c31 (by decide)
              · obtain ⟨x32, e33⟩ : ∃ y : Int32, y = y2_13 + 1 := ⟨_, rfl⟩
                refine lv_iinc (v := x32) (lv' := [(2, .int x32), (5, .int y5_10), (4, .int y4_11), (3, .int y3_12), (0, .ref h0), (1, .int p1)]) hx hb dX12_cuts_45 hl (k := 3) rfl (by rw [e33]; rfl) (by decide) rfl (fun ls hl => ?_)
                have t34 : x32.toInt = y2_13.toInt + 1 := by rw [e33]; exact hw_add rfl rfl (by omega) (by omega)
                refine lv_iload_n hx hb dX12_cuts_48 rfl (lv_at hl 3 rfl) ?_
                refine lv_iload hx hb dX12_cuts_49 (lv_at hl 1 rfl) ?_
                refine lv_iand hx hb dX12_cuts_51 ?_
                refine lv_topi (fun x35 e36 => ?_)
                have t37 : 0 ≤ x35.toInt ∧ x35.toInt ≤ y5_10.toInt := by rw [e36]; exact hw_and (by first | decide | omega)
                refine lv_istore_n (lv' := [(3, .int x35), (2, .int x32), (5, .int y5_10), (4, .int y4_11), (0, .ref h0), (1, .int p1)]) hx hb dX12_cuts_52 rfl hl (by decide) rfl (fun ls hl => ?_)
                refine lv_iload hx hb dX12_cuts_53 (lv_at hl 3 rfl) ?_
                refine lv_iload hx hb dX12_cuts_55 (lv_at hl 2 rfl) ?_
                refine lv_ior hx hb dX12_cuts_57 ?_
                refine lv_topi (fun x38 e39 => ?_)
                refine lv_istore (lv' := [(4, .int x38), (3, .int x35), (2, .int x32), (5, .int y5_10), (0, .ref h0), (1, .int p1)]) hx hb dX12_cuts_58 hl (by decide) rfl (fun ls hl => ?_)
                obtain ⟨x40, e41⟩ : ∃ y : Int32, y = y5_10 + 1 := ⟨_, rfl⟩
                refine lv_iinc (v := x40) (lv' := [(5, .int x40), (4, .int x38), (3, .int x35), (2, .int x32), (0, .ref h0), (1, .int p1)]) hx hb dX12_cuts_60 hl (k := 3) rfl (by rw [e41]; rfl) (by decide) rfl (fun ls hl => ?_)
                have t42 : x40.toInt = y5_10.toInt + 1 := by rw [e41]; exact hw_add rfl rfl (by omega) (by omega)
                refine lv_goto (tgt := 27) hx hb dX12_cuts_63 (by decide) ?_
                exact ih27 x40 x38 x35 x32 (by first | omega | omega) ⟨by first | decide | omega, by first | decide | omega⟩ ⟨by first | decide | omega, by first | decide | omega⟩ (by first | assumption | omega | decide | rfl | (intros; first | rfl | assumption | omega)) (by intro h9; first | (exfalso; omega) | (rw [hw_cls (x := y5_10) (by omega) (by omega)]; show x35 = hw_andU y5_10.toNatClampNeg &&& nI y5_10.toNatClampNeg; rw [hw_nIc (by omega) (by omega), ← inv27_1 h9]; exact e36)) (by intro h9; first | (exfalso; omega) | (rw [hw_cls (x := y5_10) (by omega) (by omega)]; show x38 = hw_orU y5_10.toNatClampNeg ||| nI y5_10.toNatClampNeg; rw [hw_nIc (by omega) (by omega), ← inv27_2 h9]; exact e39)) (by first | assumption | omega | decide | rfl | (intros; first | rfl | assumption | omega)) _ (lv_sub hl [0, 1, 2, 3, 4, 5] rfl)
            · refine lv_if_eq (tgt := 60) hx hb dX12_cuts_42 (by decide) (fun c43 => ?_) (fun c43 => ?_)
              · obtain ⟨x44, e45⟩ : ∃ y : Int32, y = y5_10 + 1 := ⟨_, rfl⟩
                refine lv_iinc (v := x44) (lv' := [(5, .int x44), (4, .int y4_11), (3, .int y3_12), (2, .int y2_13), (0, .ref h0), (1, .int p1)]) hx hb dX12_cuts_60 hl (k := 0) rfl (by rw [e45]; rfl) (by decide) rfl (fun ls hl => ?_)
                have t46 : x44.toInt = y5_10.toInt + 1 := by rw [e45]; exact hw_add rfl rfl (by omega) (by omega)
                refine lv_goto (tgt := 27) hx hb dX12_cuts_63 (by decide) ?_
                exact ih27 x44 y4_11 y3_12 y2_13 (by first | omega | omega) ⟨by first | decide | omega, by first | decide | omega⟩ ⟨by first | decide | omega, by first | decide | omega⟩ (by first | assumption | omega | decide | rfl | (intros; first | rfl | assumption | omega)) (by intro h9; first | (exfalso; omega) | (rw [hw_cls (x := y5_10) (by omega) (by omega)]; show y3_12 = hw_andU y5_10.toNatClampNeg &&& nI y5_10.toNatClampNeg; rw [hw_nIc (by omega) (by omega), ← inv27_1 h9]; exact rfl)) (by intro h9; first | (exfalso; omega) | (rw [hw_cls (x := y5_10) (by omega) (by omega)]; show y4_11 = hw_orU y5_10.toNatClampNeg ||| nI y5_10.toNatClampNeg; rw [hw_nIc (by omega) (by omega), ← inv27_2 h9]; exact rfl)) (by first | assumption | omega | decide | rfl | (intros; first | rfl | assumption | omega)) _ (lv_sub hl [0, 1, 2, 3, 4, 5] rfl)
              · exact absurd c43 (by decide)
      exact L27 _ 0 0 511 0 (Nat.lt_succ_self _) ⟨by first | decide | omega, by first | decide | omega⟩ ⟨by first | decide | omega, by first | decide | omega⟩ (by intro _; rfl) (by intro _; rfl) (by intro _; rfl) (by decide) _ (lv_sub hl [0, 1, 2, 3, 4, 5] rfl)
    · exact absurd c9 (by decide)
  · refine lv_if_ne (tgt := 15) hx hb dX12_cuts_9 (by decide) (fun c47 => ?_) (fun c47 => ?_)
    · exact absurd c47 (by decide)
    · refine lv_bipush (v := (-3)) hx hb dX12_cuts_12 (by decide) ?_
      exact hw_iretR (v := (-3)) hx hb hr hlocks hQ rfl (Or.inl ⟨rfl, (by first | rfl | trivial | assumption | omega | (intros; first | rfl | assumption | omega | (exfalso; omega)))⟩) dX12_cuts_14

set_option maxHeartbeats 4000000 in
set_option maxRecDepth 100000 in
theorem k_X12_how (l : Launch) (D : hw_D) (G : Nat → Nat) (h0 : Nat) (p1 : Int32) (sz : Nat) (rm : Nat → Nat) (ud_m ky_m lo_m wk_m dk_m ln_m sm_m fi_m be_m rk_m rl_m rw_m cl_m dg_m : Int32) (G0 : G h0 = 9) (Rm : hw_RM G rm) (gud_m : 0 ≤ ud_m.toInt ∧ ud_m.toInt ≤ 8) (gky_m : 0 ≤ ky_m.toInt ∧ ky_m.toInt ≤ 7) (glo_m : 0 ≤ lo_m.toInt ∧ lo_m.toInt ≤ 7) (gwk_m : 0 ≤ wk_m.toInt ∧ wk_m.toInt ≤ 3) (gln_m : 0 ≤ ln_m.toInt ∧ ln_m.toInt ≤ 200) (gsm_m : 0 ≤ sm_m.toInt ∧ sm_m.toInt ≤ 6) (gfi_m : 0 ≤ fi_m.toInt ∧ fi_m.toInt ≤ 200) (gbe_m : 0 ≤ be_m.toInt ∧ be_m.toInt ≤ 200) (grk_m : 0 ≤ rk_m.toInt ∧ rk_m.toInt ≤ 7) (grl_m : 0 ≤ rl_m.toInt ∧ rl_m.toInt ≤ 7) (grw_m : 0 ≤ rw_m.toInt ∧ rw_m.toInt ≤ 3) (gdg_m : 0 ≤ dg_m.toInt ∧ dg_m.toInt ≤ 1) : Met l yX12_how wsX12_how ({ frames := 3, cells := 0, slots := 0, locals := 71 } : Room) (hw_PC D G [.ref h0, .int p1] sz (fun H => va_at D.1 vwCl (h0, .inr (11, hw_LM rm ud_m ky_m lo_m wk_m dk_m ln_m sm_m fi_m be_m rk_m rl_m rw_m cl_m dg_m)) H)) (hw_QR (fun v => ∃ (r : Int32), v = .int r ∧ (ky_m.toInt = 0 → r.toInt = -2))) 0 0 (fun _ => False) := by
  refine hw_met (cc := cX12_how) (maxL := 4) (ret := (some .int)) (plainFor_of_name (by decide)) rfl (Nat.le_of_ble_eq_true rfl) ?_
  intro p e s m args below meth c QQ ls hsz hx hb hml hr hts hown hlocks hnm hH hK hST hF hQ hl
  subst hsz
  have hS : va_S (hw_AW G [] s.heap.size) s.heap s.heap [] := va_S.rf
  have vm := hF
  have hl : lv_has ls 4 [(0, .ref h0), (1, .int p1)] := hl
  have u_11 : ∀ w ∈ u_ws RX12 TX12 45, w.before args s = true := fun w hw => hts w ((by decide +kernel : ∀ w ∈ u_ws RX12 TX12 45, w ∈ wsX12_how) w hw)
  have fg_17_11 : hw_FG s args m 17 11 4 := ⟨RX12, "WardWalkersModel", RX12, TX12, 45, u_11, hown, rfl, by decide, (hts (.fieldLink RX12 17 "WardWalkersModel" "kinds" "[I") (by decide +kernel)), (fun _ h9 => h9)⟩
  have fg_20_11 : hw_FG s args m 20 11 5 := ⟨RX12, "WardWalkersModel", RX12, TX12, 45, u_11, hown, rfl, by decide, (hts (.fieldLink RX12 20 "WardWalkersModel" "keyCuts" "[I") (by decide +kernel)), (fun _ h9 => h9)⟩
  have fg_23_11 : hw_FG s args m 23 11 6 := ⟨RX12, "WardWalkersModel", RX12, TX12, 45, u_11, hown, rfl, by decide, (hts (.fieldLink RX12 23 "WardWalkersModel" "marks" "[I") (by decide +kernel)), (fun _ h9 => h9)⟩
  refine lv_aload_n hx hb dX12_how_0 rfl (lv_at hl 0 rfl) ?_
  refine lv_iload_n hx hb dX12_how_1 rfl (lv_at hl 1 rfl) ?_
  refine hw_cR (va_runV (As := [.int p1]) (rest := []) ⟨hx, hb, hml, hown, hts⟩ (k_X12_isKey l D G h0 p1 _ rm ud_m ky_m lo_m wk_m dk_m ln_m sm_m fi_m be_m rk_m rl_m rw_m cl_m dg_m G0 Rm ⟨by first | decide | omega, by first | decide | omega⟩ ⟨by first | decide | omega, by first | decide | omega⟩ ⟨by first | decide | omega, by first | decide | omega⟩ ⟨by first | decide | omega, by first | decide | omega⟩ ⟨by first | decide | omega, by first | decide | omega⟩ ⟨by first | decide | omega, by first | decide | omega⟩ ⟨by first | decide | omega, by first | decide | omega⟩ ⟨by first | decide | omega, by first | decide | omega⟩ ⟨by first | decide | omega, by first | decide | omega⟩ ⟨by first | decide | omega, by first | decide | omega⟩ ⟨by first | decide | omega, by first | decide | omega⟩ ⟨by first | decide | omega, by first | decide | omega⟩) (cwV 1 hts gX12_how_X12_isKey rfl rfl rfl (by decide +kernel) ⟨Nat.le_of_ble_eq_true rfl, Nat.le_of_ble_eq_true rfl⟩) (hw_pV (hw_rc (q := (RX12, TX12, 45)) hK vm rfl) hH hK hST hS (by decide) (fun _ h => Or.inl h) vm) rfl rfl hl.1 rfl (lv_room (Nat.le_of_ble_eq_true rfl)) dX12_how_2 ⟨Nat.le_of_ble_eq_true rfl, Nat.le_of_ble_eq_true rfl⟩) (fun v hp => ?_)
  rcases hp with ⟨rfl, q1⟩ | ⟨rfl, q2⟩
  · refine lv_if_ne (tgt := 11) hx hb dX12_how_5 (by decide) (fun c3 => ?_) (fun c3 => ?_)
    · refine lv_iconst (v := 0) hx hb dX12_how_11 (by decide) ?_
      refine lv_istore_n (lv' := [(2, .int 0), (0, .ref h0), (1, .int p1)]) hx hb dX12_how_12 rfl hl (by decide) rfl (fun ls hl => ?_)
      refine lv_iconst (v := 0) hx hb dX12_how_13 (by decide) ?_
      refine lv_istore_n (lv' := [(3, .int 0), (2, .int 0), (0, .ref h0), (1, .int p1)]) hx hb dX12_how_14 rfl hl (by decide) rfl (fun ls hl => ?_)
      have L15 : ∀ (n7 : Nat) (y3_4 : Int32) (y2_5 : Int32) (hm : (9 - y3_4.toInt).toNat < n7) (g6 : 0 ≤ y3_4.toInt ∧ y3_4.toInt ≤ 9) (ls : Array Slot) (hl : lv_has ls 4 [(3, .int y3_4), (2, .int y2_5), (0, .ref h0), (1, .int p1)]), W p l e ({ frames := 3, cells := 0, slots := 0, locals := 71 } : Room) s m args below meth c s.heap [] 0 0 QQ (F0 m 15 ls []) := by
        intro n7
        induction n7 with
        | zero => intro y3_4 y2_5 hm; exact absurd hm (Nat.not_lt_zero _)
        | succ n7 ih15 =>
          intro y3_4 y2_5 hm g6 ls hl
          refine lv_iload_n hx hb dX12_how_15 rfl (lv_at hl 0 rfl) ?_
          refine lv_bipush (v := 9) hx hb dX12_how_16 (by decide) ?_
          refine lv_icmp_ge (tgt := 72) hx hb dX12_how_18 (by decide) (fun c8 => ?_) (fun c8 => ?_)
          · have b9 : 9 ≤ y3_4.toInt := hw_ile c8
            refine lv_iload_n hx hb dX12_how_72 rfl (lv_at hl 1 rfl) ?_
            exact hw_iretR (v := y2_5) hx hb hr hlocks hQ rfl (⟨y2_5, rfl, (by first | rfl | trivial | assumption | omega | (intros; first | rfl | assumption | omega | (exfalso; omega)))⟩) dX12_how_73
          · have b10 : y3_4.toInt < 9 := hw_inle c8
            refine lv_iload_n hx hb dX12_how_21 rfl (lv_at hl 1 rfl) ?_
            refine lv_aload_n hx hb dX12_how_22 rfl (lv_at hl 2 rfl) ?_
            refine lv_aload_n hx hb dX12_how_23 rfl (lv_at hl 2 rfl) ?_
            refine hw_get hx hb fg_17_11 hK vm rfl dX12_how_24 ?_
            refine lv_iload_n hx hb dX12_how_27 rfl (lv_at hl 3 rfl) ?_
            obtain ⟨f11, v12⟩ := hH.a44 (hw_RM_4 Rm)
            refine hw_iald hx hb hK v12 (hw_in (by omega) (by omega)) dX12_how_28 ?_
            refine lv_topi (fun x14 e15 => ?_)
            refine lv_aload_n hx hb dX12_how_29 rfl (lv_at hl 2 rfl) ?_
            refine hw_get hx hb fg_17_11 hK vm rfl dX12_how_30 ?_
            refine lv_iload_n hx hb dX12_how_33 rfl (lv_at hl 3 rfl) ?_
            obtain ⟨f16, v17⟩ := hH.a44 (hw_RM_4 Rm)
            refine hw_iald hx hb hK v17 (hw_in (by omega) (by omega)) dX12_how_34 ?_
            refine lv_topi (fun x19 e20 => ?_)
            refine lv_aload_n hx hb dX12_how_35 rfl (lv_at hl 2 rfl) ?_
            refine hw_get hx hb fg_20_11 hK vm rfl dX12_how_36 ?_
            refine lv_iload_n hx hb dX12_how_39 rfl (lv_at hl 3 rfl) ?_
            obtain ⟨f21, v22⟩ := hH.a45 (hw_RM_5 Rm)
            refine hw_iald hx hb hK v22 (hw_in (by omega) (by omega)) dX12_how_40 ?_
            refine lv_topi (fun x24 e25 => ?_)
            refine lv_aload_n hx hb dX12_how_41 rfl (lv_at hl 2 rfl) ?_
            refine hw_get hx hb fg_23_11 hK vm rfl dX12_how_42 ?_
            refine lv_iload_n hx hb dX12_how_45 rfl (lv_at hl 3 rfl) ?_
            obtain ⟨f26, v27⟩ := hH.a46 (hw_RM_6 Rm)
            refine hw_iald hx hb hK v27 (hw_in (by omega) (by omega)) dX12_how_46 ?_
            refine lv_topi (fun x29 e30 => ?_)
            refine lv_iload_n hx hb dX12_how_47 rfl (lv_at hl 0 rfl) ?_
            refine hw_cR (va_runS (As := [.int x19, .int x24, .int x29, .int y3_4]) (rest := [.int x14, .ref h0, .int y2_5]) ⟨hx, hb, hml, hown, hts⟩ (k_X12_edgeBy l D G x19 x24 x29 y3_4 _) (va_cwS 4 hts gX12_how_X12_edgeBy rfl rfl rfl (by decide +kernel) ⟨Nat.le_of_ble_eq_true rfl, Nat.le_of_ble_eq_true rfl⟩) (hw_pS hH hK hST hS (by decide) (fun _ h => Or.inl h) trivial) rfl rfl hl.1 rfl (lv_room (Nat.le_of_ble_eq_true rfl)) dX12_how_48 ⟨Nat.le_of_ble_eq_true rfl, Nat.le_of_ble_eq_true rfl⟩) (fun v hp => ?_)
            obtain ⟨x31, rfl⟩ := hp
            refine hw_cR (va_runV (As := [.int x14, .int x31]) (rest := [.int y2_5]) ⟨hx, hb, hml, hown, hts⟩ (k_X12_isSeenSo l D G h0 x14 x31 _ rm ud_m ky_m lo_m wk_m dk_m ln_m sm_m fi_m be_m rk_m rl_m rw_m cl_m dg_m G0 Rm ⟨by first | decide | omega, by first | decide | omega⟩ ⟨by first | decide | omega, by first | decide | omega⟩ ⟨by first | decide | omega, by first | decide | omega⟩ ⟨by first | decide | omega, by first | decide | omega⟩ ⟨by first | decide | omega, by first | decide | omega⟩ ⟨by first | decide | omega, by first | decide | omega⟩ ⟨by first | decide | omega, by first | decide | omega⟩ ⟨by first | decide | omega, by first | decide | omega⟩ ⟨by first | decide | omega, by first | decide | omega⟩ ⟨by first | decide | omega, by first | decide | omega⟩ ⟨by first | decide | omega, by first | decide | omega⟩ ⟨by first | decide | omega, by first | decide | omega⟩) (cwV 2 hts gX12_how_X12_isSeenSo rfl rfl rfl (by decide +kernel) ⟨Nat.le_of_ble_eq_true rfl, Nat.le_of_ble_eq_true rfl⟩) (hw_pV (hw_rc (q := (RX12, TX12, 45)) hK vm rfl) hH hK hST hS (by decide) (fun _ h => Or.inl h) vm) rfl rfl hl.1 rfl (lv_room (Nat.le_of_ble_eq_true rfl)) dX12_how_51 ⟨Nat.le_of_ble_eq_true rfl, Nat.le_of_ble_eq_true rfl⟩) (fun v hp => ?_)
            rcases hp with rfl | ⟨rfl, q32⟩
            · refine lv_if_eq (tgt := 63) hx hb dX12_how_54 (by decide) (fun c33 => ?_) (fun c33 => ?_)
              · exact absurd c33 (by decide)
              · refine lv_iconst (v := 1) hx hb dX12_how_57 (by decide) ?_
                refine lv_iload_n hx hb dX12_how_58 rfl (lv_at hl 0 rfl) ?_
                refine lv_ishl hx hb dX12_how_59 ?_
                refine lv_topi (fun x34 e35 => ?_)
                have t36 : 1 ≤ x34.toInt ∧ x34.toInt ≤ 256 := by rw [e35]; exact hw_sh1b 8 (by decide) (by first | decide | omega) (by first | decide | omega)
                refine lv_goto (tgt := 64) hx hb dX12_how_60 (by decide) ?_
                refine lv_ior hx hb dX12_how_64 ?_
                refine lv_topi (fun x37 e38 => ?_)
                refine lv_istore_n (lv' := [(2, .int x37), (3, .int y3_4), (0, .ref h0), (1, .int p1)]) hx hb dX12_how_65 rfl hl (by decide) rfl (fun ls hl => ?_)
                obtain ⟨x39, e40⟩ : ∃ y : Int32, y = y3_4 + 1 := ⟨_, rfl⟩
                refine lv_iinc (v := x39) (lv' := [(3, .int x39), (2, .int x37), (0, .ref h0), (1, .int p1)]) hx hb dX12_how_66 hl (k := 1) rfl (by rw [e40]; rfl) (by decide) rfl (fun ls hl => ?_)
                have t41 : x39.toInt = y3_4.toInt + 1 := by rw [e40]; exact hw_add rfl rfl (by omega) (by omega)
                refine lv_goto (tgt := 15) hx hb dX12_how_69 (by decide) ?_
                exact ih15 x39 x37 (by first | omega | omega) ⟨by first | decide | omega, by first | decide | omega⟩ _ (lv_sub hl [0, 1, 2, 3] rfl)
            · refine lv_if_eq (tgt := 63) hx hb dX12_how_54 (by decide) (fun c42 => ?_) (fun c42 => ?_)
              · refine lv_iconst (v := 0) hx hb dX12_how_63 (by decide) ?_
                refine lv_ior hx hb dX12_how_64 ?_
                refine lv_topi (fun x43 e44 => ?_)
                refine lv_istore_n (lv' := [(2, .int x43), (3, .int y3_4), (0, .ref h0), (1, .int p1)]) hx hb dX12_how_65 rfl hl (by decide) rfl (fun ls hl => ?_)
                obtain ⟨x45, e46⟩ : ∃ y : Int32, y = y3_4 + 1 := ⟨_, rfl⟩
                refine lv_iinc (v := x45) (lv' := [(3, .int x45), (2, .int x43), (0, .ref h0), (1, .int p1)]) hx hb dX12_how_66 hl (k := 1) rfl (by rw [e46]; rfl) (by decide) rfl (fun ls hl => ?_)
                have t47 : x45.toInt = y3_4.toInt + 1 := by rw [e46]; exact hw_add rfl rfl (by omega) (by omega)
                refine lv_goto (tgt := 15) hx hb dX12_how_69 (by decide) ?_
                exact ih15 x45 x43 (by first | omega | omega) ⟨by first | decide | omega, by first | decide | omega⟩ _ (lv_sub hl [0, 1, 2, 3] rfl)
              · exact absurd c42 (by decide)
      exact L15 _ 0 0 (Nat.lt_succ_self _) ⟨by first | decide | omega, by first | decide | omega⟩ _ (lv_sub hl [0, 1, 2, 3] rfl)
    · exact absurd c3 (by decide)
  · refine lv_if_ne (tgt := 11) hx hb dX12_how_5 (by decide) (fun c48 => ?_) (fun c48 => ?_)
    · exact absurd c48 (by decide)
    · refine lv_bipush (v := (-2)) hx hb dX12_how_8 (by decide) ?_
      exact hw_iretR (v := (-2)) hx hb hr hlocks hQ rfl (⟨(-2), rfl, (by first | rfl | trivial | assumption | omega | (intros; first | rfl | assumption | omega | (exfalso; omega)))⟩) dX12_how_10

set_option maxHeartbeats 4000000 in
set_option maxRecDepth 100000 in
theorem k_X12_choices (l : Launch) (D : hw_D) (G : Nat → Nat) (p1 : Int32) (p2 : Int32) (sz : Nat) (hn : 0 ≤ p1.toInt ∧ p1.toInt ≤ 9) (hm2 : 0 ≤ p2.toInt ∧ p2.toInt ≤ 9) : Met l yX12_choices wsX12_choices ({ frames := 0, cells := 0, slots := 0, locals := 0 } : Room) (hw_PC D G [.int p1, .int p2] sz (fun H => True)) (hw_QR (fun v => ∃ (r : Int32), v = .int r ∧ (p2.toInt ≤ p1.toInt → r ≠ 0))) 0 0 (fun _ => False) := by
  refine hw_met (cc := cX12_choices) (maxL := 4) (ret := (some .int)) (plainFor_of_name (by decide)) rfl (Nat.le_of_ble_eq_true rfl) ?_
  intro p e s m args below meth c QQ ls hsz hx hb hml hr hts hown hlocks hnm hH hK hST hF hQ hl
  subst hsz
  have hS : va_S (hw_AW G [] s.heap.size) s.heap s.heap [] := va_S.rf
  have hl : lv_has ls 4 [(0, .int p1), (1, .int p2)] := hl
  refine lv_iconst (v := 1) hx hb dX12_choices_0 (by decide) ?_
  refine lv_istore_n (lv' := [(2, .int 1), (0, .int p1), (1, .int p2)]) hx hb dX12_choices_1 rfl hl (by decide) rfl (fun ls hl => ?_)
  refine lv_iconst (v := 0) hx hb dX12_choices_2 (by decide) ?_
  refine lv_istore_n (lv' := [(3, .int 0), (2, .int 1), (0, .int p1), (1, .int p2)]) hx hb dX12_choices_3 rfl hl (by decide) rfl (fun ls hl => ?_)
  have L4 : ∀ (n4 : Nat) (y3_1 : Int32) (y2_2 : Int32) (hm : (9 - y3_1.toInt).toNat < n4) (g3 : 0 ≤ y3_1.toInt ∧ y3_1.toInt ≤ 9) (inv4_0 : y2_2 = hw_ch p1 y3_1.toNatClampNeg) (inv4_1 : y3_1.toInt ≤ p2.toInt) (ls : Array Slot) (hl : lv_has ls 4 [(3, .int y3_1), (2, .int y2_2), (0, .int p1), (1, .int p2)]), W p l e ({ frames := 0, cells := 0, slots := 0, locals := 0 } : Room) s m args below meth c s.heap [] 0 0 QQ (F0 m 4 ls []) := by
    intro n4
    induction n4 with
    | zero => intro y3_1 y2_2 hm; exact absurd hm (Nat.not_lt_zero _)
    | succ n4 ih4 =>
      intro y3_1 y2_2 hm g3 inv4_0 inv4_1 ls hl
      refine lv_iload_n hx hb dX12_choices_4 rfl (lv_at hl 0 rfl) ?_
      refine lv_iload_n hx hb dX12_choices_5 rfl (lv_at hl 3 rfl) ?_
      refine lv_icmp_ge (tgt := 25) hx hb dX12_choices_6 (by decide) (fun c5 => ?_) (fun c5 => ?_)
      · have b6 : p2.toInt ≤ y3_1.toInt := hw_ile c5
        refine lv_iload_n hx hb dX12_choices_25 rfl (lv_at hl 3 rfl) ?_
        refine lv_iload_n hx hb dX12_choices_26 rfl (lv_at hl 2 rfl) ?_
        refine lv_icmp_le (tgt := 34) hx hb dX12_choices_27 (by decide) (fun c7 => ?_) (fun c7 => ?_)
        · have b8 : p2.toInt ≤ p1.toInt := hw_ile c7
          refine lv_iload_n hx hb dX12_choices_34 rfl (lv_at hl 1 rfl) ?_
          exact hw_iretR (v := y2_2) hx hb hr hlocks hQ rfl (⟨y2_2, rfl, (by intro h9; first | (exfalso; omega) | (rw [inv4_0, show y3_1 = p2 from Int32.toInt_inj.mp (by omega)]; exact hw_chn (by omega) (by omega) (by omega) h9))⟩) dX12_choices_35
        · have b9 : p1.toInt < p2.toInt := hw_inle c7
          refine lv_iconst (v := 0) hx hb dX12_choices_30 (by decide) ?_
          refine lv_goto (tgt := 35) hx hb dX12_choices_31 (by decide) ?_
          exact hw_iretR (v := 0) hx hb hr hlocks hQ rfl (⟨0, rfl, (by intro h9; first | (exfalso; omega) | (rw [inv4_0, show y3_1 = p2 from Int32.toInt_inj.mp (by omega)]; exact hw_chn (by omega) (by omega) (by omega) h9))⟩) dX12_choices_35
      · have b10 : y3_1.toInt < p2.toInt := hw_inle c5
        refine lv_iload_n hx hb dX12_choices_9 rfl (lv_at hl 1 rfl) ?_
        refine lv_iload_n hx hb dX12_choices_10 rfl (lv_at hl 2 rfl) ?_
        refine lv_iload_n hx hb dX12_choices_11 rfl (lv_at hl 0 rfl) ?_
        refine lv_isub hx hb dX12_choices_12 ?_
        refine lv_topi (fun x11 e12 => ?_)
        have t13 : x11.toInt = p1.toInt - y3_1.toInt := by rw [e12]; exact hw_sub rfl rfl (by omega) (by omega)
        have hq4 := e12
        refine lv_imul hx hb dX12_choices_13 ?_
        refine lv_topi (fun x14 e15 => ?_)
        have hq3 := e15
        refine lv_iload_n hx hb dX12_choices_14 rfl (lv_at hl 0 rfl) ?_
        refine lv_iconst (v := 1) hx hb dX12_choices_15 (by decide) ?_
        refine lv_iadd hx hb dX12_choices_16 ?_
        refine lv_topi (fun x16 e17 => ?_)
        have t18 : x16.toInt = y3_1.toInt + 1 := by rw [e17]; exact hw_add rfl rfl (by omega) (by omega)
        have hq2 := e17
        refine lv_idiv hx hb dX12_choices_17 (fun h9 => by have h8 : x16.toInt = 0 := hw_ieq h9; omega) ?_
        refine lv_topi (fun x19 e20 => ?_)
        have hq1 := e20
        refine lv_istore_n (lv' := [(2, .int x19), (3, .int y3_1), (0, .int p1), (1, .int p2)]) hx hb dX12_choices_18 rfl hl (by decide) rfl (fun ls hl => ?_)
        obtain ⟨x21, e22⟩ : ∃ y : Int32, y = y3_1 + 1 := ⟨_, rfl⟩
        refine lv_iinc (v := x21) (lv' := [(3, .int x21), (2, .int x19), (0, .int p1), (1, .int p2)]) hx hb dX12_choices_19 hl (k := 1) rfl (by rw [e22]; rfl) (by decide) rfl (fun ls hl => ?_)
        have t23 : x21.toInt = y3_1.toInt + 1 := by rw [e22]; exact hw_add rfl rfl (by omega) (by omega)
        refine lv_goto (tgt := 4) hx hb dX12_choices_22 (by decide) ?_
        exact ih4 x21 x19 (by first | omega | omega) ⟨by first | decide | omega, by first | decide | omega⟩ (by rw [hw_cls (x := y3_1) (by omega) (by omega)]; show x19 = hw_ch p1 y3_1.toNatClampNeg * (p1 - nI y3_1.toNatClampNeg) / (nI y3_1.toNatClampNeg + 1); rw [hw_nIc (by omega) (by omega), ← inv4_0]; rw [hq1, hq2, hq3, hq4]) (by first | assumption | omega | decide | rfl | (intros; first | rfl | assumption | omega)) _ (lv_sub hl [0, 1, 2, 3] rfl)
  exact L4 _ 0 1 (Nat.lt_succ_self _) ⟨by first | decide | omega, by first | decide | omega⟩ (by rfl) (by have h3 : (0 : Int32).toInt = 0 := rfl; omega) _ (lv_sub hl [0, 1, 2, 3] rfl)

set_option maxHeartbeats 4000000 in
set_option maxRecDepth 100000 in
theorem k_X12_odds (l : Launch) (D : hw_D) (G : Nat → Nat) (h0 : Nat) (p1 : Int32) (p2 : Int32) (p3 : Int32) (p4 : Int32) (sz : Nat) (rm : Nat → Nat) (ud_m ky_m lo_m wk_m dk_m ln_m sm_m fi_m be_m rk_m rl_m rw_m cl_m dg_m : Int32) (G0 : G h0 = 9) (Rm : hw_RM G rm) (gud_m : 0 ≤ ud_m.toInt ∧ ud_m.toInt ≤ 8) (gky_m : 0 ≤ ky_m.toInt ∧ ky_m.toInt ≤ 7) (glo_m : 0 ≤ lo_m.toInt ∧ lo_m.toInt ≤ 7) (gwk_m : 0 ≤ wk_m.toInt ∧ wk_m.toInt ≤ 3) (gln_m : 0 ≤ ln_m.toInt ∧ ln_m.toInt ≤ 200) (gsm_m : 0 ≤ sm_m.toInt ∧ sm_m.toInt ≤ 6) (gfi_m : 0 ≤ fi_m.toInt ∧ fi_m.toInt ≤ 200) (gbe_m : 0 ≤ be_m.toInt ∧ be_m.toInt ≤ 200) (grk_m : 0 ≤ rk_m.toInt ∧ rk_m.toInt ≤ 7) (grl_m : 0 ≤ rl_m.toInt ∧ rl_m.toInt ≤ 7) (grw_m : 0 ≤ rw_m.toInt ∧ rw_m.toInt ≤ 3) (gdg_m : 0 ≤ dg_m.toInt ∧ dg_m.toInt ≤ 1) : Met l yX12_odds wsX12_odds ({ frames := 5, cells := 0, slots := 0, locals := 114 } : Room) (hw_PC D G [.ref h0, .int p1, .int p2, .int p3, .int p4] sz (fun H => va_at D.1 vwCl (h0, .inr (11, hw_LM rm ud_m ky_m lo_m wk_m dk_m ln_m sm_m fi_m be_m rk_m rl_m rw_m cl_m dg_m)) H)) (hw_QR (fun v => ∃ (r : Int32), v = .int r ∧ (lo_m.toInt = 0 → r.toInt = -2))) 0 0 (fun _ => False) := by
  refine hw_met (cc := cX12_odds) (maxL := 13) (ret := (some .int)) (plainFor_of_name (by decide)) rfl (Nat.le_of_ble_eq_true rfl) ?_
  intro p e s m args below meth c QQ ls hsz hx hb hml hr hts hown hlocks hnm hH hK hST hF hQ hl
  subst hsz
  have hS : va_S (hw_AW G [] s.heap.size) s.heap s.heap [] := va_S.rf
  have vm := hF
  have hl : lv_has ls 13 [(0, .ref h0), (1, .int p1), (2, .int p2), (3, .int p3), (4, .int p4)] := hl
  have u_11 : ∀ w ∈ u_ws RX12 TX12 45, w.before args s = true := fun w hw => hts w ((by decide +kernel : ∀ w ∈ u_ws RX12 TX12 45, w ∈ wsX12_odds) w hw)
  have fg_142_11 : hw_FG s args m 142 11 3 := ⟨RX12, "WardWalkersModel", RX12, TX12, 45, u_11, hown, rfl, by decide, (hts (.fieldLink RX12 142 "WardWalkersModel" "keys" "I") (by decide +kernel)), (fun _ h9 => h9)⟩
  refine lv_iload_n hx hb dX12_odds_0 rfl (lv_at hl 1 rfl) ?_
  refine lv_i2l hx hb dX12_odds_1 rfl ?_
  refine lv_topl (fun x1 e2 => ?_)
  have t3 : x1.toInt = p1.toInt := by rw [e2]; exact hw_i2l _
  have rg4 := hw_rng p1
  refine lv_lconst (v := 0) hx hb dX12_odds_2 (by decide) ?_
  refine lv_iconst (v := 1) hx hb dX12_odds_3 (by decide) ?_
  refine lv_aload_n hx hb dX12_odds_4 rfl (lv_at hl 0 rfl) ?_
  refine hw_get hx hb fg_142_11 hK vm rfl dX12_odds_5 ?_
  refine lv_ishl hx hb dX12_odds_8 ?_
  refine lv_topi (fun x5 e6 => ?_)
  have t7 : 1 ≤ x5.toInt ∧ x5.toInt ≤ 128 := by rw [e6]; exact hw_sh1b 7 (by decide) (by first | decide | omega) (by first | decide | omega)
  refine lv_iconst (v := 1) hx hb dX12_odds_9 (by decide) ?_
  refine lv_isub hx hb dX12_odds_10 ?_
  refine lv_topi (fun x8 e9 => ?_)
  have t10 : x8.toInt = x5.toInt - 1 := by rw [e9]; exact hw_sub rfl rfl (by omega) (by omega)
  refine lv_i2l hx hb dX12_odds_11 rfl ?_
  refine lv_topl (fun x11 e12 => ?_)
  have t13 : x11.toInt = x8.toInt := by rw [e12]; exact hw_i2l _
  refine hw_cR (va_runS (As := [.long x1, .long 0, .long x11]) (rest := []) ⟨hx, hb, hml, hown, hts⟩ (k_X12_in l D G x1 0 x11 _) (va_cwS 3 hts gX12_odds_X12_in rfl rfl rfl (by decide +kernel) ⟨Nat.le_of_ble_eq_true rfl, Nat.le_of_ble_eq_true rfl⟩) (hw_pS hH hK hST hS (by decide) (fun _ h => Or.inl h) trivial) rfl rfl hl.1 rfl (lv_room (Nat.le_of_ble_eq_true rfl)) dX12_odds_12 ⟨Nat.le_of_ble_eq_true rfl, Nat.le_of_ble_eq_true rfl⟩) (fun v hp => ?_)
  have l14 : (0 : Int64).toInt = 0 := by decide
  rcases hp with ⟨rfl, q15⟩ | ⟨rfl, q16⟩
  · refine lv_if_eq (tgt := 26) hx hb dX12_odds_15 (by decide) (fun c17 => ?_) (fun c17 => ?_)
    · exact absurd c17 (by decide)
    · refine lv_aload_n hx hb dX12_odds_18 rfl (lv_at hl 0 rfl) ?_
      refine lv_iload_n hx hb dX12_odds_19 rfl (lv_at hl 2 rfl) ?_
      refine hw_cR (va_runV (As := [.int p2]) (rest := []) ⟨hx, hb, hml, hown, hts⟩ (k_X12_isLock l D G h0 p2 _ rm ud_m ky_m lo_m wk_m dk_m ln_m sm_m fi_m be_m rk_m rl_m rw_m cl_m dg_m G0 Rm ⟨by first | decide | omega, by first | decide | omega⟩ ⟨by first | decide | omega, by first | decide | omega⟩ ⟨by first | decide | omega, by first | decide | omega⟩ ⟨by first | decide | omega, by first | decide | omega⟩ ⟨by first | decide | omega, by first | decide | omega⟩ ⟨by first | decide | omega, by first | decide | omega⟩ ⟨by first | decide | omega, by first | decide | omega⟩ ⟨by first | decide | omega, by first | decide | omega⟩ ⟨by first | decide | omega, by first | decide | omega⟩ ⟨by first | decide | omega, by first | decide | omega⟩ ⟨by first | decide | omega, by first | decide | omega⟩ ⟨by first | decide | omega, by first | decide | omega⟩) (cwV 1 hts gX12_odds_X12_isLock rfl rfl rfl (by decide +kernel) ⟨Nat.le_of_ble_eq_true rfl, Nat.le_of_ble_eq_true rfl⟩) (hw_pV (hw_rc (q := (RX12, TX12, 45)) hK vm rfl) hH hK hST hS (by decide) (fun _ h => Or.inl h) vm) rfl rfl hl.1 rfl (lv_room (Nat.le_of_ble_eq_true rfl)) dX12_odds_20 ⟨Nat.le_of_ble_eq_true rfl, Nat.le_of_ble_eq_true rfl⟩) (fun v hp => ?_)
      rcases hp with ⟨rfl, q18⟩ | ⟨rfl, q19⟩
      · refine lv_if_ne (tgt := 29) hx hb dX12_odds_23 (by decide) (fun c20 => ?_) (fun c20 => ?_)
        · refine lv_iload_n hx hb dX12_odds_29 rfl (lv_at hl 3 rfl) ?_
          refine lv_i2l hx hb dX12_odds_30 rfl ?_
          refine lv_topl (fun x21 e22 => ?_)
          have t23 : x21.toInt = p3.toInt := by rw [e22]; exact hw_i2l _
          have rg24 := hw_rng p3
          refine lv_lconst (v := 0) hx hb dX12_odds_31 (by decide) ?_
          refine lv_ldc2 (v := 7) hx hb hown (hts (.constantLong RX12 284 (7)) (by decide +kernel)) dX12_odds_32 ?_
          refine hw_cR (va_runS (As := [.long x21, .long 0, .long 7]) (rest := []) ⟨hx, hb, hml, hown, hts⟩ (k_X12_in l D G x21 0 7 _) (va_cwS 3 hts gX12_odds_X12_in rfl rfl rfl (by decide +kernel) ⟨Nat.le_of_ble_eq_true rfl, Nat.le_of_ble_eq_true rfl⟩) (hw_pS hH hK hST hS (by decide) (fun _ h => Or.inl h) trivial) rfl rfl hl.1 rfl (lv_room (Nat.le_of_ble_eq_true rfl)) dX12_odds_35 ⟨Nat.le_of_ble_eq_true rfl, Nat.le_of_ble_eq_true rfl⟩) (fun v hp => ?_)
          have l25 : (0 : Int64).toInt = 0 := by decide
          have l26 : (7 : Int64).toInt = 7 := by decide
          rcases hp with ⟨rfl, q27⟩ | ⟨rfl, q28⟩
          · refine lv_if_eq (tgt := 52) hx hb dX12_odds_38 (by decide) (fun c29 => ?_) (fun c29 => ?_)
            · exact absurd c29 (by decide)
            · refine lv_iload hx hb dX12_odds_41 (lv_at hl 4 rfl) ?_
              refine lv_i2l hx hb dX12_odds_43 rfl ?_
              refine lv_topl (fun x30 e31 => ?_)
              have t32 : x30.toInt = p4.toInt := by rw [e31]; exact hw_i2l _
              have rg33 := hw_rng p4
              refine lv_lconst (v := 0) hx hb dX12_odds_44 (by decide) ?_
              refine lv_lconst (v := 1) hx hb dX12_odds_45 (by decide) ?_
              refine hw_cR (va_runS (As := [.long x30, .long 0, .long 1]) (rest := []) ⟨hx, hb, hml, hown, hts⟩ (k_X12_in l D G x30 0 1 _) (va_cwS 3 hts gX12_odds_X12_in rfl rfl rfl (by decide +kernel) ⟨Nat.le_of_ble_eq_true rfl, Nat.le_of_ble_eq_true rfl⟩) (hw_pS hH hK hST hS (by decide) (fun _ h => Or.inl h) trivial) rfl rfl hl.1 rfl (lv_room (Nat.le_of_ble_eq_true rfl)) dX12_odds_46 ⟨Nat.le_of_ble_eq_true rfl, Nat.le_of_ble_eq_true rfl⟩) (fun v hp => ?_)
              have l34 : (0 : Int64).toInt = 0 := by decide
              have l35 : (1 : Int64).toInt = 1 := by decide
              rcases hp with ⟨rfl, q36⟩ | ⟨rfl, q37⟩
              · refine lv_if_ne (tgt := 55) hx hb dX12_odds_49 (by decide) (fun c38 => ?_) (fun c38 => ?_)
                · refine lv_iload_n hx hb dX12_odds_55 rfl (lv_at hl 1 rfl) ?_
                  refine lv_if_ne (tgt := 62) hx hb dX12_odds_56 (by decide) (fun c39 => ?_) (fun c39 => ?_)
                  · have b40 : p1.toInt ≠ 0 := hw_ine c39
                    refine lv_iload_n hx hb dX12_odds_62 rfl (lv_at hl 1 rfl) ?_
                    refine hw_cR (va_runS (As := [.int p1]) (rest := []) ⟨hx, hb, hml, hown, hts⟩ (k_X12_bits l D G p1 _) (va_cwS 1 hts gX12_odds_X12_bits rfl rfl rfl (by decide +kernel) ⟨Nat.le_of_ble_eq_true rfl, Nat.le_of_ble_eq_true rfl⟩) (hw_pS hH hK hST hS (by decide) (fun _ h => Or.inl h) trivial) rfl rfl hl.1 rfl (lv_room (Nat.le_of_ble_eq_true rfl)) dX12_odds_63 ⟨Nat.le_of_ble_eq_true rfl, Nat.le_of_ble_eq_true rfl⟩) (fun v hp => ?_)
                    obtain ⟨x41, rfl, g42, q43⟩ := hp
                    refine lv_istore (lv' := [(5, .int x41), (0, .ref h0), (1, .int p1), (2, .int p2), (3, .int p3), (4, .int p4)]) hx hb dX12_odds_66 hl (by decide) rfl (fun ls hl => ?_)
                    refine lv_iconst (v := 0) hx hb dX12_odds_68 (by decide) ?_
                    refine lv_istore (lv' := [(6, .int 0), (5, .int x41), (0, .ref h0), (1, .int p1), (2, .int p2), (3, .int p3), (4, .int p4)]) hx hb dX12_odds_69 hl (by decide) rfl (fun ls hl => ?_)
                    refine lv_iconst (v := 0) hx hb dX12_odds_71 (by decide) ?_
                    refine lv_istore (lv' := [(7, .int 0), (6, .int 0), (5, .int x41), (0, .ref h0), (1, .int p1), (2, .int p2), (3, .int p3), (4, .int p4)]) hx hb dX12_odds_72 hl (by decide) rfl (fun ls hl => ?_)
                    have L74 : ∀ (n48 : Nat) (y7_44 : Int32) (y6_45 : Int32) (hm : (7 - y7_44.toInt).toNat < n48) (g46 : 0 ≤ y6_45.toInt ∧ y6_45.toInt ≤ 7) (g47 : 0 ≤ y7_44.toInt ∧ y7_44.toInt ≤ 7) (inv74_0 : y6_45.toInt ≤ y7_44.toInt) (ls : Array Slot) (hl : lv_has ls 13 [(7, .int y7_44), (6, .int y6_45), (5, .int x41), (0, .ref h0), (1, .int p1), (2, .int p2), (3, .int p3), (4, .int p4)]), W p l e ({ frames := 5, cells := 0, slots := 0, locals := 114 } : Room) s m args below meth c s.heap [] 0 0 QQ (F0 m 74 ls []) := by
                      intro n48
                      induction n48 with
                      | zero => intro y7_44 y6_45 hm; exact absurd hm (Nat.not_lt_zero _)
                      | succ n48 ih74 =>
                        intro y7_44 y6_45 hm g46 g47 inv74_0 ls hl
                        refine lv_iload hx hb dX12_odds_74 (lv_at hl 0 rfl) ?_
                        refine lv_aload_n hx hb dX12_odds_76 rfl (lv_at hl 3 rfl) ?_
                        refine hw_get hx hb fg_142_11 hK vm rfl dX12_odds_77 ?_
                        refine lv_icmp_ge (tgt := 118) hx hb dX12_odds_80 (by decide) (fun c49 => ?_) (fun c49 => ?_)
                        · have b50 : ky_m.toInt ≤ y7_44.toInt := hw_ile c49
                          refine lv_iload_n hx hb dX12_odds_118 rfl (lv_at hl 6 rfl) ?_
                          refine lv_iload hx hb dX12_odds_119 (lv_at hl 2 rfl) ?_
                          refine lv_icmp_ge (tgt := 128) hx hb dX12_odds_121 (by decide) (fun c51 => ?_) (fun c51 => ?_)
                          · have b52 : x41.toInt ≤ p3.toInt := hw_ile c51
                            refine lv_iload hx hb dX12_odds_128 (lv_at hl 2 rfl) ?_
                            refine lv_istore (lv' := [(7, .int x41), (6, .int y6_45), (5, .int x41), (0, .ref h0), (1, .int p1), (2, .int p2), (3, .int p3), (4, .int p4)]) hx hb dX12_odds_130 hl (by decide) rfl (fun ls hl => ?_)
                            refine lv_iload hx hb dX12_odds_132 (lv_at hl 2 rfl) ?_
                            refine lv_iload hx hb dX12_odds_134 (lv_at hl 0 rfl) ?_
                            refine hw_cR (va_runS (As := [.int x41, .int x41]) (rest := []) ⟨hx, hb, hml, hown, hts⟩ (k_X12_choices l D G x41 x41 _ (by first | assumption | decide | omega) (by first | assumption | decide | omega)) (va_cwS 2 hts gX12_odds_X12_choices rfl rfl rfl (by decide +kernel) ⟨Nat.le_of_ble_eq_true rfl, Nat.le_of_ble_eq_true rfl⟩) (hw_pS hH hK hST hS (by decide) (fun _ h => Or.inl h) trivial) rfl rfl hl.1 rfl (lv_room (Nat.le_of_ble_eq_true rfl)) dX12_odds_136 ⟨Nat.le_of_ble_eq_true rfl, Nat.le_of_ble_eq_true rfl⟩) (fun v hp => ?_)
                            obtain ⟨x53, rfl, q54⟩ := hp
                            have hx0 : x53.toInt ≠ 0 := hw_ine (q54 (by omega))
                            refine lv_istore (lv' := [(8, .int x53), (7, .int x41), (6, .int y6_45), (5, .int x41), (0, .ref h0), (1, .int p1), (2, .int p2), (3, .int p3), (4, .int p4)]) hx hb dX12_odds_139 hl (by decide) rfl (fun ls hl => ?_)
                            refine lv_iload hx hb dX12_odds_141 (lv_at hl 0 rfl) ?_
                            refine lv_iload hx hb dX12_odds_143 (lv_at hl 2 rfl) ?_
                            refine lv_iload hx hb dX12_odds_145 (lv_at hl 1 rfl) ?_
                            refine hw_cR (va_runS (As := [.int y6_45, .int x41]) (rest := [.int x53]) ⟨hx, hb, hml, hown, hts⟩ (k_X12_choices l D G y6_45 x41 _ (by first | assumption | decide | omega) (by first | assumption | decide | omega)) (va_cwS 2 hts gX12_odds_X12_choices rfl rfl rfl (by decide +kernel) ⟨Nat.le_of_ble_eq_true rfl, Nat.le_of_ble_eq_true rfl⟩) (hw_pS hH hK hST hS (by decide) (fun _ h => Or.inl h) trivial) rfl rfl hl.1 rfl (lv_room (Nat.le_of_ble_eq_true rfl)) dX12_odds_147 ⟨Nat.le_of_ble_eq_true rfl, Nat.le_of_ble_eq_true rfl⟩) (fun v hp => ?_)
                            obtain ⟨x55, rfl, q56⟩ := hp
                            refine lv_isub hx hb dX12_odds_150 ?_
                            refine lv_topi (fun x57 e58 => ?_)
                            refine lv_istore (lv' := [(9, .int x57), (8, .int x53), (7, .int x41), (6, .int y6_45), (5, .int x41), (0, .ref h0), (1, .int p1), (2, .int p2), (3, .int p3), (4, .int p4)]) hx hb dX12_odds_151 hl (by decide) rfl (fun ls hl => ?_)
                            refine lv_iload hx hb dX12_odds_153 (lv_at hl 0 rfl) ?_
                            refine lv_istore (lv' := [(10, .int x57), (9, .int x57), (8, .int x53), (7, .int x41), (6, .int y6_45), (5, .int x41), (0, .ref h0), (1, .int p1), (2, .int p2), (3, .int p3), (4, .int p4)]) hx hb dX12_odds_155 hl (by decide) rfl (fun ls hl => ?_)
                            refine lv_iload hx hb dX12_odds_157 (lv_at hl 2 rfl) ?_
                            refine lv_istore (lv' := [(11, .int x53), (10, .int x57), (9, .int x57), (8, .int x53), (7, .int x41), (6, .int y6_45), (5, .int x41), (0, .ref h0), (1, .int p1), (2, .int p2), (3, .int p3), (4, .int p4)]) hx hb dX12_odds_159 hl (by decide) rfl (fun ls hl => ?_)
                            have L161 : ∀ (n61 : Nat) (y11_59 : Int32) (y10_60 : Int32) (hm : y11_59.toInt.natAbs < n61) (inv161_0 : y10_60.toInt ≠ 0 ∨ y11_59.toInt ≠ 0) (ls : Array Slot) (hl : lv_has ls 13 [(11, .int y11_59), (10, .int y10_60), (9, .int x57), (8, .int x53), (7, .int x41), (6, .int y6_45), (5, .int x41), (0, .ref h0), (1, .int p1), (2, .int p2), (3, .int p3), (4, .int p4)]), W p l e ({ frames := 5, cells := 0, slots := 0, locals := 114 } : Room) s m args below meth c s.heap [] 0 0 QQ (F0 m 161 ls []) := by
                              intro n61
                              induction n61 with
                              | zero => intro y11_59 y10_60 hm; exact absurd hm (Nat.not_lt_zero _)
                              | succ n61 ih161 =>
                                intro y11_59 y10_60 hm inv161_0 ls hl
                                refine lv_iload hx hb dX12_odds_161 (lv_at hl 0 rfl) ?_
                                refine lv_if_eq (tgt := 184) hx hb dX12_odds_163 (by decide) (fun c62 => ?_) (fun c62 => ?_)
                                · have b63 : y11_59.toInt = 0 := hw_ieq c62
                                  refine lv_iload hx hb dX12_odds_184 (lv_at hl 11 rfl) ?_
                                  refine lv_if_ne (tgt := 197) hx hb dX12_odds_186 (by decide) (fun c64 => ?_) (fun c64 => ?_)
                                  · have b65 : p4.toInt ≠ 0 := hw_ine c64
                                    refine lv_iload hx hb dX12_odds_197 (lv_at hl 3 rfl) ?_
                                    refine lv_iload hx hb dX12_odds_199 (lv_at hl 1 rfl) ?_
                                    refine lv_idiv hx hb dX12_odds_201 (fun h9 => by have h8 : y10_60.toInt = 0 := hw_ieq h9; omega) ?_
                                    refine lv_topi (fun x66 e67 => ?_)
                                    exact hw_iretR (v := x66) hx hb hr hlocks hQ rfl (⟨x66, rfl, (by first | rfl | trivial | assumption | omega | (intros; first | rfl | assumption | omega | (exfalso; omega)))⟩) dX12_odds_202
                                  · have b68 : p4.toInt = 0 := hw_ieq c64
                                    refine lv_iload hx hb dX12_odds_189 (lv_at hl 2 rfl) ?_
                                    refine lv_iload hx hb dX12_odds_191 (lv_at hl 1 rfl) ?_
                                    refine lv_idiv hx hb dX12_odds_193 (fun h9 => by have h8 : y10_60.toInt = 0 := hw_ieq h9; omega) ?_
                                    refine lv_topi (fun x69 e70 => ?_)
                                    refine lv_goto (tgt := 202) hx hb dX12_odds_194 (by decide) ?_
                                    exact hw_iretR (v := x69) hx hb hr hlocks hQ rfl (⟨x69, rfl, (by first | rfl | trivial | assumption | omega | (intros; first | rfl | assumption | omega | (exfalso; omega)))⟩) dX12_odds_202
                                · have b71 : y11_59.toInt ≠ 0 := hw_ine c62
                                  refine lv_iload hx hb dX12_odds_166 (lv_at hl 1 rfl) ?_
                                  refine lv_iload hx hb dX12_odds_168 (lv_at hl 0 rfl) ?_
                                  refine lv_irem hx hb dX12_odds_170 (fun h9 => by have h8 : y11_59.toInt = 0 := hw_ieq h9; omega) ?_
                                  refine lv_topi (fun x72 e73 => ?_)
                                  have t74 : x72.toInt.natAbs < y11_59.toInt.natAbs := by rw [e73]; exact hw_rem2 (by omega)
                                  refine lv_istore (lv' := [(12, .int x72), (11, .int y11_59), (10, .int y10_60), (9, .int x57), (8, .int x53), (7, .int x41), (6, .int y6_45), (5, .int x41), (0, .ref h0), (1, .int p1), (2, .int p2), (3, .int p3), (4, .int p4)]) hx hb dX12_odds_171 hl (by decide) rfl (fun ls hl => ?_)
                                  refine lv_iload hx hb dX12_odds_173 (lv_at hl 1 rfl) ?_
                                  refine lv_istore (lv' := [(10, .int y11_59), (12, .int x72), (11, .int y11_59), (9, .int x57), (8, .int x53), (7, .int x41), (6, .int y6_45), (5, .int x41), (0, .ref h0), (1, .int p1), (2, .int p2), (3, .int p3), (4, .int p4)]) hx hb dX12_odds_175 hl (by decide) rfl (fun ls hl => ?_)
                                  refine lv_iload hx hb dX12_odds_177 (lv_at hl 1 rfl) ?_
                                  refine lv_istore (lv' := [(11, .int x72), (10, .int y11_59), (12, .int x72), (9, .int x57), (8, .int x53), (7, .int x41), (6, .int y6_45), (5, .int x41), (0, .ref h0), (1, .int p1), (2, .int p2), (3, .int p3), (4, .int p4)]) hx hb dX12_odds_179 hl (by decide) rfl (fun ls hl => ?_)
                                  refine lv_goto (tgt := 161) hx hb dX12_odds_181 (by decide) ?_
                                  exact ih161 x72 y11_59 (by first | omega | omega) (by first | assumption | omega | decide | rfl | (intros; first | rfl | assumption | omega)) _ (lv_sub hl [0, 1, 3, 4, 5, 6, 7, 8, 9, 10, 11, 12] rfl)
                            exact L161 _ x53 x57 (Nat.lt_succ_self _) (by first | assumption | omega | decide | rfl | (intros; first | rfl | assumption | omega)) _ (lv_sub hl [0, 1, 2, 3, 4, 5, 6, 7, 8, 9, 10, 11] rfl)
                          · have b75 : p3.toInt < x41.toInt := hw_inle c51
                            refine lv_iload_n hx hb dX12_odds_124 rfl (lv_at hl 6 rfl) ?_
                            refine lv_goto (tgt := 130) hx hb dX12_odds_125 (by decide) ?_
                            refine lv_istore (lv' := [(7, .int p3), (6, .int y6_45), (5, .int x41), (0, .ref h0), (1, .int p1), (2, .int p2), (3, .int p3), (4, .int p4)]) hx hb dX12_odds_130 hl (by decide) rfl (fun ls hl => ?_)
                            refine lv_iload hx hb dX12_odds_132 (lv_at hl 2 rfl) ?_
                            refine lv_iload hx hb dX12_odds_134 (lv_at hl 0 rfl) ?_
                            refine hw_cR (va_runS (As := [.int x41, .int p3]) (rest := []) ⟨hx, hb, hml, hown, hts⟩ (k_X12_choices l D G x41 p3 _ (by first | assumption | decide | omega) (by first | assumption | decide | omega)) (va_cwS 2 hts gX12_odds_X12_choices rfl rfl rfl (by decide +kernel) ⟨Nat.le_of_ble_eq_true rfl, Nat.le_of_ble_eq_true rfl⟩) (hw_pS hH hK hST hS (by decide) (fun _ h => Or.inl h) trivial) rfl rfl hl.1 rfl (lv_room (Nat.le_of_ble_eq_true rfl)) dX12_odds_136 ⟨Nat.le_of_ble_eq_true rfl, Nat.le_of_ble_eq_true rfl⟩) (fun v hp => ?_)
                            obtain ⟨x76, rfl, q77⟩ := hp
                            have hx0 : x76.toInt ≠ 0 := hw_ine (q77 (by omega))
                            refine lv_istore (lv' := [(8, .int x76), (7, .int p3), (6, .int y6_45), (5, .int x41), (0, .ref h0), (1, .int p1), (2, .int p2), (3, .int p3), (4, .int p4)]) hx hb dX12_odds_139 hl (by decide) rfl (fun ls hl => ?_)
                            refine lv_iload hx hb dX12_odds_141 (lv_at hl 0 rfl) ?_
                            refine lv_iload hx hb dX12_odds_143 (lv_at hl 2 rfl) ?_
                            refine lv_iload hx hb dX12_odds_145 (lv_at hl 1 rfl) ?_
                            refine hw_cR (va_runS (As := [.int y6_45, .int p3]) (rest := [.int x76]) ⟨hx, hb, hml, hown, hts⟩ (k_X12_choices l D G y6_45 p3 _ (by first | assumption | decide | omega) (by first | assumption | decide | omega)) (va_cwS 2 hts gX12_odds_X12_choices rfl rfl rfl (by decide +kernel) ⟨Nat.le_of_ble_eq_true rfl, Nat.le_of_ble_eq_true rfl⟩) (hw_pS hH hK hST hS (by decide) (fun _ h => Or.inl h) trivial) rfl rfl hl.1 rfl (lv_room (Nat.le_of_ble_eq_true rfl)) dX12_odds_147 ⟨Nat.le_of_ble_eq_true rfl, Nat.le_of_ble_eq_true rfl⟩) (fun v hp => ?_)
                            obtain ⟨x78, rfl, q79⟩ := hp
                            refine lv_isub hx hb dX12_odds_150 ?_
                            refine lv_topi (fun x80 e81 => ?_)
                            refine lv_istore (lv' := [(9, .int x80), (8, .int x76), (7, .int p3), (6, .int y6_45), (5, .int x41), (0, .ref h0), (1, .int p1), (2, .int p2), (3, .int p3), (4, .int p4)]) hx hb dX12_odds_151 hl (by decide) rfl (fun ls hl => ?_)
                            refine lv_iload hx hb dX12_odds_153 (lv_at hl 0 rfl) ?_
                            refine lv_istore (lv' := [(10, .int x80), (9, .int x80), (8, .int x76), (7, .int p3), (6, .int y6_45), (5, .int x41), (0, .ref h0), (1, .int p1), (2, .int p2), (3, .int p3), (4, .int p4)]) hx hb dX12_odds_155 hl (by decide) rfl (fun ls hl => ?_)
                            refine lv_iload hx hb dX12_odds_157 (lv_at hl 2 rfl) ?_
                            refine lv_istore (lv' := [(11, .int x76), (10, .int x80), (9, .int x80), (8, .int x76), (7, .int p3), (6, .int y6_45), (5, .int x41), (0, .ref h0), (1, .int p1), (2, .int p2), (3, .int p3), (4, .int p4)]) hx hb dX12_odds_159 hl (by decide) rfl (fun ls hl => ?_)
                            have L161 : ∀ (n84 : Nat) (y11_82 : Int32) (y10_83 : Int32) (hm : y11_82.toInt.natAbs < n84) (inv161_0 : y10_83.toInt ≠ 0 ∨ y11_82.toInt ≠ 0) (ls : Array Slot) (hl : lv_has ls 13 [(11, .int y11_82), (10, .int y10_83), (9, .int x80), (8, .int x76), (7, .int p3), (6, .int y6_45), (5, .int x41), (0, .ref h0), (1, .int p1), (2, .int p2), (3, .int p3), (4, .int p4)]), W p l e ({ frames := 5, cells := 0, slots := 0, locals := 114 } : Room) s m args below meth c s.heap [] 0 0 QQ (F0 m 161 ls []) := by
                              intro n84
                              induction n84 with
                              | zero => intro y11_82 y10_83 hm; exact absurd hm (Nat.not_lt_zero _)
                              | succ n84 ih161 =>
                                intro y11_82 y10_83 hm inv161_0 ls hl
                                refine lv_iload hx hb dX12_odds_161 (lv_at hl 0 rfl) ?_
                                refine lv_if_eq (tgt := 184) hx hb dX12_odds_163 (by decide) (fun c85 => ?_) (fun c85 => ?_)
                                · have b86 : y11_82.toInt = 0 := hw_ieq c85
                                  refine lv_iload hx hb dX12_odds_184 (lv_at hl 11 rfl) ?_
                                  refine lv_if_ne (tgt := 197) hx hb dX12_odds_186 (by decide) (fun c87 => ?_) (fun c87 => ?_)
                                  · have b88 : p4.toInt ≠ 0 := hw_ine c87
                                    refine lv_iload hx hb dX12_odds_197 (lv_at hl 3 rfl) ?_
                                    refine lv_iload hx hb dX12_odds_199 (lv_at hl 1 rfl) ?_
                                    refine lv_idiv hx hb dX12_odds_201 (fun h9 => by have h8 : y10_83.toInt = 0 := hw_ieq h9; omega) ?_
                                    refine lv_topi (fun x89 e90 => ?_)
                                    exact hw_iretR (v := x89) hx hb hr hlocks hQ rfl (⟨x89, rfl, (by first | rfl | trivial | assumption | omega | (intros; first | rfl | assumption | omega | (exfalso; omega)))⟩) dX12_odds_202
                                  · have b91 : p4.toInt = 0 := hw_ieq c87
                                    refine lv_iload hx hb dX12_odds_189 (lv_at hl 2 rfl) ?_
                                    refine lv_iload hx hb dX12_odds_191 (lv_at hl 1 rfl) ?_
                                    refine lv_idiv hx hb dX12_odds_193 (fun h9 => by have h8 : y10_83.toInt = 0 := hw_ieq h9; omega) ?_
                                    refine lv_topi (fun x92 e93 => ?_)
                                    refine lv_goto (tgt := 202) hx hb dX12_odds_194 (by decide) ?_
                                    exact hw_iretR (v := x92) hx hb hr hlocks hQ rfl (⟨x92, rfl, (by first | rfl | trivial | assumption | omega | (intros; first | rfl | assumption | omega | (exfalso; omega)))⟩) dX12_odds_202
                                · have b94 : y11_82.toInt ≠ 0 := hw_ine c85
                                  refine lv_iload hx hb dX12_odds_166 (lv_at hl 1 rfl) ?_
                                  refine lv_iload hx hb dX12_odds_168 (lv_at hl 0 rfl) ?_
                                  refine lv_irem hx hb dX12_odds_170 (fun h9 => by have h8 : y11_82.toInt = 0 := hw_ieq h9; omega) ?_
                                  refine lv_topi (fun x95 e96 => ?_)
                                  have t97 : x95.toInt.natAbs < y11_82.toInt.natAbs := by rw [e96]; exact hw_rem2 (by omega)
                                  refine lv_istore (lv' := [(12, .int x95), (11, .int y11_82), (10, .int y10_83), (9, .int x80), (8, .int x76), (7, .int p3), (6, .int y6_45), (5, .int x41), (0, .ref h0), (1, .int p1), (2, .int p2), (3, .int p3), (4, .int p4)]) hx hb dX12_odds_171 hl (by decide) rfl (fun ls hl => ?_)
                                  refine lv_iload hx hb dX12_odds_173 (lv_at hl 1 rfl) ?_
                                  refine lv_istore (lv' := [(10, .int y11_82), (12, .int x95), (11, .int y11_82), (9, .int x80), (8, .int x76), (7, .int p3), (6, .int y6_45), (5, .int x41), (0, .ref h0), (1, .int p1), (2, .int p2), (3, .int p3), (4, .int p4)]) hx hb dX12_odds_175 hl (by decide) rfl (fun ls hl => ?_)
                                  refine lv_iload hx hb dX12_odds_177 (lv_at hl 1 rfl) ?_
                                  refine lv_istore (lv' := [(11, .int x95), (10, .int y11_82), (12, .int x95), (9, .int x80), (8, .int x76), (7, .int p3), (6, .int y6_45), (5, .int x41), (0, .ref h0), (1, .int p1), (2, .int p2), (3, .int p3), (4, .int p4)]) hx hb dX12_odds_179 hl (by decide) rfl (fun ls hl => ?_)
                                  refine lv_goto (tgt := 161) hx hb dX12_odds_181 (by decide) ?_
                                  exact ih161 x95 y11_82 (by first | omega | omega) (by first | assumption | omega | decide | rfl | (intros; first | rfl | assumption | omega)) _ (lv_sub hl [0, 1, 3, 4, 5, 6, 7, 8, 9, 10, 11, 12] rfl)
                            exact L161 _ x76 x80 (Nat.lt_succ_self _) (by first | assumption | omega | decide | rfl | (intros; first | rfl | assumption | omega)) _ (lv_sub hl [0, 1, 2, 3, 4, 5, 6, 7, 8, 9, 10, 11] rfl)
                        · have b98 : y7_44.toInt < ky_m.toInt := hw_inle c49
                          refine lv_iload hx hb dX12_odds_83 (lv_at hl 1 rfl) ?_
                          refine lv_iload_n hx hb dX12_odds_85 rfl (lv_at hl 4 rfl) ?_
                          refine lv_iload hx hb dX12_odds_86 (lv_at hl 0 rfl) ?_
                          refine hw_cR (va_runS (As := [.int p1, .int y7_44]) (rest := [.int y6_45]) ⟨hx, hb, hml, hown, hts⟩ (k_X12_has l D G p1 y7_44 _) (va_cwS 2 hts gX12_odds_X12_has rfl rfl rfl (by decide +kernel) ⟨Nat.le_of_ble_eq_true rfl, Nat.le_of_ble_eq_true rfl⟩) (hw_pS hH hK hST hS (by decide) (fun _ h => Or.inl h) trivial) rfl rfl hl.1 rfl (lv_room (Nat.le_of_ble_eq_true rfl)) dX12_odds_88 ⟨Nat.le_of_ble_eq_true rfl, Nat.le_of_ble_eq_true rfl⟩) (fun v hp => ?_)
                          rcases hp with rfl | rfl
                          · refine lv_if_eq (tgt := 108) hx hb dX12_odds_91 (by decide) (fun c99 => ?_) (fun c99 => ?_)
                            · exact absurd c99 (by decide)
                            · refine lv_aload_n hx hb dX12_odds_94 rfl (lv_at hl 3 rfl) ?_
                              refine lv_iload hx hb dX12_odds_95 (lv_at hl 0 rfl) ?_
                              refine lv_iload_n hx hb dX12_odds_97 rfl (lv_at hl 5 rfl) ?_
                              refine hw_cR (va_runV (As := [.int y7_44, .int p2]) (rest := [.int y6_45]) ⟨hx, hb, hml, hown, hts⟩ (k_X12_doesGo l D G h0 y7_44 p2 _ G0 (by first | assumption | decide | omega) (by first | assumption | decide | omega)) (cwV 2 hts gX12_odds_X12_doesGo rfl rfl rfl (by decide +kernel) ⟨Nat.le_of_ble_eq_true rfl, Nat.le_of_ble_eq_true rfl⟩) (hw_pV (hw_rc (q := (RX12, TX12, 45)) hK vm rfl) hH hK hST hS (by decide) (fun _ h => Or.inl h) trivial) rfl rfl hl.1 rfl (lv_room (Nat.le_of_ble_eq_true rfl)) dX12_odds_98 ⟨Nat.le_of_ble_eq_true rfl, Nat.le_of_ble_eq_true rfl⟩) (fun v hp => ?_)
                              rcases hp with rfl | rfl
                              · refine lv_if_ne (tgt := 108) hx hb dX12_odds_101 (by decide) (fun c100 => ?_) (fun c100 => ?_)
                                · refine lv_iconst (v := 0) hx hb dX12_odds_108 (by decide) ?_
                                  refine lv_iadd hx hb dX12_odds_109 ?_
                                  refine lv_topi (fun x101 e102 => ?_)
                                  have t103 : x101.toInt = y6_45.toInt + 0 := by rw [e102]; exact hw_add rfl rfl (by omega) (by omega)
                                  refine lv_istore (lv' := [(6, .int x101), (7, .int y7_44), (5, .int x41), (0, .ref h0), (1, .int p1), (2, .int p2), (3, .int p3), (4, .int p4)]) hx hb dX12_odds_110 hl (by decide) rfl (fun ls hl => ?_)
                                  obtain ⟨x104, e105⟩ : ∃ y : Int32, y = y7_44 + 1 := ⟨_, rfl⟩
                                  refine lv_iinc (v := x104) (lv' := [(7, .int x104), (6, .int x101), (5, .int x41), (0, .ref h0), (1, .int p1), (2, .int p2), (3, .int p3), (4, .int p4)]) hx hb dX12_odds_112 hl (k := 1) rfl (by rw [e105]; rfl) (by decide) rfl (fun ls hl => ?_)
                                  have t106 : x104.toInt = y7_44.toInt + 1 := by rw [e105]; exact hw_add rfl rfl (by omega) (by omega)
                                  refine lv_goto (tgt := 74) hx hb dX12_odds_115 (by decide) ?_
                                  exact ih74 x104 x101 (by first | omega | omega) ⟨by first | decide | omega, by first | decide | omega⟩ ⟨by first | decide | omega, by first | decide | omega⟩ (by first | assumption | omega | decide | rfl | (intros; first | rfl | assumption | omega)) _ (lv_sub hl [0, 1, 2, 3, 4, 5, 6, 7] rfl)
                                · exact absurd c100 (by decide)
                              · refine lv_if_ne (tgt := 108) hx hb dX12_odds_101 (by decide) (fun c107 => ?_) (fun c107 => ?_)
                                · exact absurd c107 (by decide)
                                · refine lv_iconst (v := 1) hx hb dX12_odds_104 (by decide) ?_
                                  refine lv_goto (tgt := 109) hx hb dX12_odds_105 (by decide) ?_
                                  refine lv_iadd hx hb dX12_odds_109 ?_
                                  refine lv_topi (fun x108 e109 => ?_)
                                  have t110 : x108.toInt = y6_45.toInt + 1 := by rw [e109]; exact hw_add rfl rfl (by omega) (by omega)
                                  refine lv_istore (lv' := [(6, .int x108), (7, .int y7_44), (5, .int x41), (0, .ref h0), (1, .int p1), (2, .int p2), (3, .int p3), (4, .int p4)]) hx hb dX12_odds_110 hl (by decide) rfl (fun ls hl => ?_)
                                  obtain ⟨x111, e112⟩ : ∃ y : Int32, y = y7_44 + 1 := ⟨_, rfl⟩
                                  refine lv_iinc (v := x111) (lv' := [(7, .int x111), (6, .int x108), (5, .int x41), (0, .ref h0), (1, .int p1), (2, .int p2), (3, .int p3), (4, .int p4)]) hx hb dX12_odds_112 hl (k := 1) rfl (by rw [e112]; rfl) (by decide) rfl (fun ls hl => ?_)
                                  have t113 : x111.toInt = y7_44.toInt + 1 := by rw [e112]; exact hw_add rfl rfl (by omega) (by omega)
                                  refine lv_goto (tgt := 74) hx hb dX12_odds_115 (by decide) ?_
                                  exact ih74 x111 x108 (by first | omega | omega) ⟨by first | decide | omega, by first | decide | omega⟩ ⟨by first | decide | omega, by first | decide | omega⟩ (by first | assumption | omega | decide | rfl | (intros; first | rfl | assumption | omega)) _ (lv_sub hl [0, 1, 2, 3, 4, 5, 6, 7] rfl)
                          · refine lv_if_eq (tgt := 108) hx hb dX12_odds_91 (by decide) (fun c114 => ?_) (fun c114 => ?_)
                            · refine lv_iconst (v := 0) hx hb dX12_odds_108 (by decide) ?_
                              refine lv_iadd hx hb dX12_odds_109 ?_
                              refine lv_topi (fun x115 e116 => ?_)
                              have t117 : x115.toInt = y6_45.toInt + 0 := by rw [e116]; exact hw_add rfl rfl (by omega) (by omega)
                              refine lv_istore (lv' := [(6, .int x115), (7, .int y7_44), (5, .int x41), (0, .ref h0), (1, .int p1), (2, .int p2), (3, .int p3), (4, .int p4)]) hx hb dX12_odds_110 hl (by decide) rfl (fun ls hl => ?_)
                              obtain ⟨x118, e119⟩ : ∃ y : Int32, y = y7_44 + 1 := ⟨_, rfl⟩
                              refine lv_iinc (v := x118) (lv' := [(7, .int x118), (6, .int x115), (5, .int x41), (0, .ref h0), (1, .int p1), (2, .int p2), (3, .int p3), (4, .int p4)]) hx hb dX12_odds_112 hl (k := 1) rfl (by rw [e119]; rfl) (by decide) rfl (fun ls hl => ?_)
                              have t120 : x118.toInt = y7_44.toInt + 1 := by rw [e119]; exact hw_add rfl rfl (by omega) (by omega)
                              refine lv_goto (tgt := 74) hx hb dX12_odds_115 (by decide) ?_
                              exact ih74 x118 x115 (by first | omega | omega) ⟨by first | decide | omega, by first | decide | omega⟩ ⟨by first | decide | omega, by first | decide | omega⟩ (by first | assumption | omega | decide | rfl | (intros; first | rfl | assumption | omega)) _ (lv_sub hl [0, 1, 2, 3, 4, 5, 6, 7] rfl)
                            · exact absurd c114 (by decide)
                    exact L74 _ 0 0 (Nat.lt_succ_self _) ⟨by first | decide | omega, by first | decide | omega⟩ ⟨by first | decide | omega, by first | decide | omega⟩ (by first | assumption | omega | decide | rfl | (intros; first | rfl | assumption | omega)) _ (lv_sub hl [0, 1, 2, 3, 4, 5, 6, 7] rfl)
                  · have b121 : p1.toInt = 0 := hw_ieq c39
                    refine lv_bipush (v := (-16)) hx hb dX12_odds_59 (by decide) ?_
                    exact hw_iretR (v := (-16)) hx hb hr hlocks hQ rfl (⟨(-16), rfl, (by first | rfl | trivial | assumption | omega | (intros; first | rfl | assumption | omega | (exfalso; omega)))⟩) dX12_odds_61
                · exact absurd c38 (by decide)
              · refine lv_if_ne (tgt := 55) hx hb dX12_odds_49 (by decide) (fun c122 => ?_) (fun c122 => ?_)
                · exact absurd c122 (by decide)
                · refine lv_bipush (v := (-3)) hx hb dX12_odds_52 (by decide) ?_
                  exact hw_iretR (v := (-3)) hx hb hr hlocks hQ rfl (⟨(-3), rfl, (by first | rfl | trivial | assumption | omega | (intros; first | rfl | assumption | omega | (exfalso; omega)))⟩) dX12_odds_54
          · refine lv_if_eq (tgt := 52) hx hb dX12_odds_38 (by decide) (fun c123 => ?_) (fun c123 => ?_)
            · refine lv_bipush (v := (-3)) hx hb dX12_odds_52 (by decide) ?_
              exact hw_iretR (v := (-3)) hx hb hr hlocks hQ rfl (⟨(-3), rfl, (by first | rfl | trivial | assumption | omega | (intros; first | rfl | assumption | omega | (exfalso; omega)))⟩) dX12_odds_54
            · exact absurd c123 (by decide)
        · exact absurd c20 (by decide)
      · refine lv_if_ne (tgt := 29) hx hb dX12_odds_23 (by decide) (fun c124 => ?_) (fun c124 => ?_)
        · exact absurd c124 (by decide)
        · refine lv_bipush (v := (-2)) hx hb dX12_odds_26 (by decide) ?_
          exact hw_iretR (v := (-2)) hx hb hr hlocks hQ rfl (⟨(-2), rfl, (by first | rfl | trivial | assumption | omega | (intros; first | rfl | assumption | omega | (exfalso; omega)))⟩) dX12_odds_28
  · refine lv_if_eq (tgt := 26) hx hb dX12_odds_15 (by decide) (fun c125 => ?_) (fun c125 => ?_)
    · refine lv_bipush (v := (-2)) hx hb dX12_odds_26 (by decide) ?_
      exact hw_iretR (v := (-2)) hx hb hr hlocks hQ rfl (⟨(-2), rfl, (by first | rfl | trivial | assumption | omega | (intros; first | rfl | assumption | omega | (exfalso; omega)))⟩) dX12_odds_28
    · exact absurd c125 (by decide)

set_option maxHeartbeats 4000000 in
set_option maxRecDepth 100000 in
theorem k_X12_isRack (l : Launch) (D : hw_D) (G : Nat → Nat) (p1 : Int32) (sz : Nat) : Met l yX12_isRack wsX12_isRack ({ frames := 1, cells := 0, slots := 0, locals := 25 } : Room) (hw_PC D G [.int p1] sz (fun H => True)) (hw_QR (fun v => (v = .int 1 ∧ ((0 ≤ p1.toInt ∧ p1.toInt ≤ 3))) ∨ (v = .int 0 ∧ ((p1.toInt < 0 ∨ 3 < p1.toInt))))) 0 0 (fun _ => False) := by
  refine hw_met (cc := cX12_isRack) (maxL := 1) (ret := (some .boolean)) (plainFor_of_name (by decide)) rfl (Nat.le_of_ble_eq_true rfl) ?_
  intro p e s m args below meth c QQ ls hsz hx hb hml hr hts hown hlocks hnm hH hK hST hF hQ hl
  subst hsz
  have hS : va_S (hw_AW G [] s.heap.size) s.heap s.heap [] := va_S.rf
  have hl : lv_has ls 1 [(0, .int p1)] := hl
  refine lv_iload_n hx hb dX12_isRack_0 rfl (lv_at hl 0 rfl) ?_
  refine lv_i2l hx hb dX12_isRack_1 rfl ?_
  refine lv_topl (fun x1 e2 => ?_)
  have t3 : x1.toInt = p1.toInt := by rw [e2]; exact hw_i2l _
  have rg4 := hw_rng p1
  refine lv_lconst (v := 0) hx hb dX12_isRack_2 (by decide) ?_
  refine lv_ldc2 (v := 3) hx hb hown (hts (.constantLong RX12 304 (3)) (by decide +kernel)) dX12_isRack_3 ?_
  refine hw_cR (va_runS (As := [.long x1, .long 0, .long 3]) (rest := []) ⟨hx, hb, hml, hown, hts⟩ (k_X12_in l D G x1 0 3 _) (va_cwS 3 hts gX12_isRack_X12_in rfl rfl rfl (by decide +kernel) ⟨Nat.le_of_ble_eq_true rfl, Nat.le_of_ble_eq_true rfl⟩) (hw_pS hH hK hST hS (by decide) (fun _ h => Or.inl h) trivial) rfl rfl hl.1 rfl (lv_room (Nat.le_of_ble_eq_true rfl)) dX12_isRack_6 ⟨Nat.le_of_ble_eq_true rfl, Nat.le_of_ble_eq_true rfl⟩) (fun v hp => ?_)
  have l5 : (0 : Int64).toInt = 0 := by decide
  have l6 : (3 : Int64).toInt = 3 := by decide
  rcases hp with ⟨rfl, q7⟩ | ⟨rfl, q8⟩
  · exact hw_iretR (v := 1) hx hb hr hlocks hQ rfl (Or.inl ⟨rfl, (by first | rfl | trivial | assumption | omega | (intros; first | rfl | assumption | omega | (exfalso; omega)))⟩) dX12_isRack_9
  · exact hw_iretR (v := 0) hx hb hr hlocks hQ rfl (Or.inr (⟨rfl, (by first | rfl | trivial | assumption | omega | (intros; first | rfl | assumption | omega | (exfalso; omega)))⟩)) dX12_isRack_9

set_option maxHeartbeats 4000000 in
set_option maxRecDepth 100000 in
theorem k_X12_isSpan (l : Launch) (D : hw_D) (G : Nat → Nat) (h0 : Nat) (p1 : Int32) (p2 : Int32) (p3 : Int32) (sz : Nat) (rm : Nat → Nat) (ud_m ky_m lo_m wk_m dk_m ln_m sm_m fi_m be_m rk_m rl_m rw_m cl_m dg_m : Int32) (fsz : Nat → Int32) (G0 : G h0 = 9) (Rm : hw_RM G rm) (gud_m : 0 ≤ ud_m.toInt ∧ ud_m.toInt ≤ 8) (gky_m : 0 ≤ ky_m.toInt ∧ ky_m.toInt ≤ 7) (glo_m : 0 ≤ lo_m.toInt ∧ lo_m.toInt ≤ 7) (gwk_m : 0 ≤ wk_m.toInt ∧ wk_m.toInt ≤ 3) (gln_m : 0 ≤ ln_m.toInt ∧ ln_m.toInt ≤ 200) (gsm_m : 0 ≤ sm_m.toInt ∧ sm_m.toInt ≤ 6) (gfi_m : 0 ≤ fi_m.toInt ∧ fi_m.toInt ≤ 200) (gbe_m : 0 ≤ be_m.toInt ∧ be_m.toInt ≤ 200) (grk_m : 0 ≤ rk_m.toInt ∧ rk_m.toInt ≤ 7) (grl_m : 0 ≤ rl_m.toInt ∧ rl_m.toInt ≤ 7) (grw_m : 0 ≤ rw_m.toInt ∧ rw_m.toInt ≤ 3) (gdg_m : 0 ≤ dg_m.toInt ∧ dg_m.toInt ≤ 1) (qsz : ∀ j, j < 4 → (-1) ≤ (fsz j).toInt ∧ (fsz j).toInt ≤ 24) (hr1 : 0 ≤ p1.toInt ∧ p1.toInt ≤ 3) : Met l yX12_isSpan wsX12_isSpan ({ frames := 0, cells := 0, slots := 0, locals := 0 } : Room) (hw_PC D G [.ref h0, .int p1, .int p2, .int p3] sz (fun H => va_at D.1 vwCl (h0, .inr (11, hw_LM rm ud_m ky_m lo_m wk_m dk_m ln_m sm_m fi_m be_m rk_m rl_m rw_m cl_m dg_m)) H ∧ va_at D.1 vwCl ((rm 42), .inl (D.2.1 0, 4, .inl fsz)) H)) (hw_QR (fun v => (v = .int 1 ∧ (0 ≤ p2.toInt ∧ 0 ≤ p3.toInt ∧ p2.toInt + p3.toInt ≤ (fsz p1.toNatClampNeg).toInt)) ∨ (v = .int 0 ∧ (p2.toInt < 0 ∨ p3.toInt < 0 ∨ (fsz p1.toNatClampNeg).toInt < p2.toInt + p3.toInt)))) 0 0 (fun _ => False) := by
  refine hw_met (cc := cX12_isSpan) (maxL := 4) (ret := (some .boolean)) (plainFor_of_name (by decide)) rfl (Nat.le_of_ble_eq_true rfl) ?_
  intro p e s m args below meth c QQ ls hsz hx hb hml hr hts hown hlocks hnm hH hK hST hF hQ hl
  subst hsz
  have hS : va_S (hw_AW G [] s.heap.size) s.heap s.heap [] := va_S.rf
  obtain ⟨vm, vsz⟩ := hF
  have hl : lv_has ls 4 [(0, .ref h0), (1, .int p1), (2, .int p2), (3, .int p3)] := hl
  have u_11 : ∀ w ∈ u_ws RX12 TX12 45, w.before args s = true := fun w hw => hts w ((by decide +kernel : ∀ w ∈ u_ws RX12 TX12 45, w ∈ wsX12_isSpan) w hw)
  have fg_99_11 : hw_FG s args m 99 11 42 := ⟨RX12, "WardWalkersModel", RX12, TX12, 45, u_11, hown, rfl, by decide, (hts (.fieldLink RX12 99 "WardWalkersModel" "sizes" "[I") (by decide +kernel)), (fun _ h9 => h9)⟩
  refine lv_iload_n hx hb dX12_isSpan_0 rfl (lv_at hl 2 rfl) ?_
  refine lv_if_lt (tgt := 28) hx hb dX12_isSpan_1 (by decide) (fun c1 => ?_) (fun c1 => ?_)
  · have b2 : p2.toInt < 0 := hw_ilt c1
    refine lv_iconst (v := 0) hx hb dX12_isSpan_28 (by decide) ?_
    exact hw_iretR (v := 0) hx hb hr hlocks hQ rfl (Or.inr (⟨rfl, (by first | rfl | trivial | assumption | omega | (intros; first | rfl | assumption | omega | (exfalso; omega)))⟩)) dX12_isSpan_29
  · have b3 : 0 ≤ p2.toInt := hw_inlt c1
    refine lv_iload_n hx hb dX12_isSpan_4 rfl (lv_at hl 3 rfl) ?_
    refine lv_if_lt (tgt := 28) hx hb dX12_isSpan_5 (by decide) (fun c4 => ?_) (fun c4 => ?_)
    · have b5 : p3.toInt < 0 := hw_ilt c4
      refine lv_iconst (v := 0) hx hb dX12_isSpan_28 (by decide) ?_
      exact hw_iretR (v := 0) hx hb hr hlocks hQ rfl (Or.inr (⟨rfl, (by first | rfl | trivial | assumption | omega | (intros; first | rfl | assumption | omega | (exfalso; omega)))⟩)) dX12_isSpan_29
    · have b6 : 0 ≤ p3.toInt := hw_inlt c4
      refine lv_iload_n hx hb dX12_isSpan_8 rfl (lv_at hl 2 rfl) ?_
      refine lv_i2l hx hb dX12_isSpan_9 rfl ?_
      refine lv_topl (fun x7 e8 => ?_)
      have t9 : x7.toInt = p2.toInt := by rw [e8]; exact hw_i2l _
      have rg10 := hw_rng p2
      refine lv_iload_n hx hb dX12_isSpan_10 rfl (lv_at hl 3 rfl) ?_
      refine lv_i2l hx hb dX12_isSpan_11 rfl ?_
      refine lv_topl (fun x11 e12 => ?_)
      have t13 : x11.toInt = p3.toInt := by rw [e12]; exact hw_i2l _
      have rg14 := hw_rng p3
      refine lv_ladd hx hb dX12_isSpan_12  ?_
      refine lv_topl (fun x15 e16 => ?_)
      have t17 : x15.toInt = x7.toInt + x11.toInt := by rw [e16]; exact hw_ladd rfl rfl (by omega) (by omega)
      refine lv_aload_n hx hb dX12_isSpan_13 rfl (lv_at hl 0 rfl) ?_
      refine hw_get hx hb fg_99_11 hK vm rfl dX12_isSpan_14 ?_
      refine lv_iload_n hx hb dX12_isSpan_17 rfl (lv_at hl 1 rfl) ?_
      refine hw_iald hx hb hK vsz (hw_in (by omega) (by omega)) dX12_isSpan_18 ?_
      refine lv_topi (fun x18 e19 => ?_)
      have n21 : vp_in p1 4 := (hw_in (by omega) (by omega))
      have t20 : (-1) ≤ x18.toInt ∧ x18.toInt ≤ 24 := by rw [e19]; exact qsz _ (Nat.not_le.mp fun q => n21 (Or.inr q))
      have hsz : x18.toInt = (fsz p1.toNatClampNeg).toInt := by rw [e19]
      refine lv_i2l hx hb dX12_isSpan_19 rfl ?_
      refine lv_topl (fun x22 e23 => ?_)
      have t24 : x22.toInt = x18.toInt := by rw [e23]; exact hw_i2l _
      refine W.lcmp hx hb dX12_isSpan_20 ?_
      refine lv_topi (fun x25 e26 => ?_)
      refine lv_if_gt (tgt := 28) hx hb dX12_isSpan_21 (by decide) (fun c27 => ?_) (fun c27 => ?_)
      · have b28 := hw_cmpgt (e26 ▸ c27)
        have b29 : x22.toInt < x15.toInt := hw_Llt b28
        refine lv_iconst (v := 0) hx hb dX12_isSpan_28 (by decide) ?_
        exact hw_iretR (v := 0) hx hb hr hlocks hQ rfl (Or.inr (⟨rfl, (by first | rfl | trivial | assumption | omega | (intros; first | rfl | assumption | omega | (exfalso; omega)))⟩)) dX12_isSpan_29
      · have b30 := hw_cmpngt (e26 ▸ c27)
        have b31 : x15.toInt ≤ x22.toInt := hw_Lnlt b30
        refine lv_iconst (v := 1) hx hb dX12_isSpan_24 (by decide) ?_
        refine lv_goto (tgt := 29) hx hb dX12_isSpan_25 (by decide) ?_
        exact hw_iretR (v := 1) hx hb hr hlocks hQ rfl (Or.inl ⟨rfl, (by first | rfl | trivial | assumption | omega | (intros; first | rfl | assumption | omega | (exfalso; omega)))⟩) dX12_isSpan_29

set_option maxHeartbeats 4000000 in
set_option maxRecDepth 100000 in
theorem k_X12_cut (l : Launch) (D : hw_D) (G : Nat → Nat) (p1 : Int32) (p2 : Int64) (sz : Nat) : Met l yX12_cut wsX12_cut ({ frames := 0, cells := 0, slots := 0, locals := 0 } : Room) (hw_PC D G [.int p1, .long p2] sz (fun H => True)) (hw_QR (fun v => ∃ (r : Int64), v = .long r)) 0 0 (fun _ => False) := by
  refine hw_met (cc := cX12_cut) (maxL := 3) (ret := (some .long)) (plainFor_of_name (by decide)) rfl (Nat.le_of_ble_eq_true rfl) ?_
  intro p e s m args below meth c QQ ls hsz hx hb hml hr hts hown hlocks hnm hH hK hST hF hQ hl
  subst hsz
  have hS : va_S (hw_AW G [] s.heap.size) s.heap s.heap [] := va_S.rf
  have hl : lv_has ls 3 [(0, .int p1), (1, .long p2)] := hl
  refine lv_iload_n hx hb dX12_cut_0 rfl (lv_at hl 0 rfl) ?_
  refine lv_if_ne (tgt := 11) hx hb dX12_cut_1 (by decide) (fun c1 => ?_) (fun c1 => ?_)
  · have b2 : p1.toInt ≠ 0 := hw_ine c1
    refine lv_iload_n hx hb dX12_cut_11 rfl (lv_at hl 0 rfl) ?_
    refine lv_iconst (v := 1) hx hb dX12_cut_12 (by decide) ?_
    refine lv_icmp_ne (tgt := 23) hx hb dX12_cut_13 (by decide) (fun c3 => ?_) (fun c3 => ?_)
    · have b4 : p1.toInt ≠ 1 := hw_ine c3
      refine lv_iload_n hx hb dX12_cut_23 rfl (lv_at hl 0 rfl) ?_
      refine lv_iconst (v := 2) hx hb dX12_cut_24 (by decide) ?_
      refine lv_icmp_ne (tgt := 34) hx hb dX12_cut_25 (by decide) (fun c5 => ?_) (fun c5 => ?_)
      · have b6 : p1.toInt ≠ 2 := hw_ine c5
        refine lv_iload_n hx hb dX12_cut_34 rfl (lv_at hl 0 rfl) ?_
        refine lv_iconst (v := 3) hx hb dX12_cut_35 (by decide) ?_
        refine lv_icmp_ne (tgt := 43) hx hb dX12_cut_36 (by decide) (fun c7 => ?_) (fun c7 => ?_)
        · have b8 : p1.toInt ≠ 3 := hw_ine c7
          refine lv_lload_n hx hb dX12_cut_43 rfl (lv_at hl 1 rfl) ?_
          refine lv_lconst (v := 1) hx hb dX12_cut_44 (by decide) ?_
          refine lv_land hx hb dX12_cut_45  ?_
          refine lv_topl (fun x9 e10 => ?_)
          exact hw_lretR (v := x9) hx hb hr hlocks hQ (⟨x9, rfl⟩) dX12_cut_46
        · have b11 : p1.toInt = 3 := hw_ieq c7
          refine lv_lload_n hx hb dX12_cut_39 rfl (lv_at hl 1 rfl) ?_
          refine lv_goto (tgt := 46) hx hb dX12_cut_40 (by decide) ?_
          exact hw_lretR (v := p2) hx hb hr hlocks hQ (⟨p2, rfl⟩) dX12_cut_46
      · have b12 : p1.toInt = 2 := hw_ieq c5
        refine lv_lload_n hx hb dX12_cut_28 rfl (lv_at hl 1 rfl) ?_
        refine lv_l2i hx hb dX12_cut_29 rfl ?_
        refine lv_topi (fun x13 e14 => ?_)
        refine lv_i2l hx hb dX12_cut_30 rfl ?_
        refine lv_topl (fun x15 e16 => ?_)
        have t17 : x15.toInt = x13.toInt := by rw [e16]; exact hw_i2l _
        have rg18 := hw_rng x13
        refine lv_goto (tgt := 46) hx hb dX12_cut_31 (by decide) ?_
        exact hw_lretR (v := x15) hx hb hr hlocks hQ (⟨x15, rfl⟩) dX12_cut_46
    · have b19 : p1.toInt = 1 := hw_ieq c3
      refine lv_lload_n hx hb dX12_cut_16 rfl (lv_at hl 1 rfl) ?_
      refine lv_l2i hx hb dX12_cut_17 rfl ?_
      refine lv_topi (fun x20 e21 => ?_)
      refine lv_i2s hx hb dX12_cut_18 rfl ?_
      refine lv_topi (fun x22 e23 => ?_)
      refine lv_i2l hx hb dX12_cut_19 rfl ?_
      refine lv_topl (fun x24 e25 => ?_)
      have t26 : x24.toInt = x22.toInt := by rw [e25]; exact hw_i2l _
      have rg27 := hw_rng x22
      refine lv_goto (tgt := 46) hx hb dX12_cut_20 (by decide) ?_
      exact hw_lretR (v := x24) hx hb hr hlocks hQ (⟨x24, rfl⟩) dX12_cut_46
  · have b28 : p1.toInt = 0 := hw_ieq c1
    refine lv_lload_n hx hb dX12_cut_4 rfl (lv_at hl 1 rfl) ?_
    refine lv_l2i hx hb dX12_cut_5 rfl ?_
    refine lv_topi (fun x29 e30 => ?_)
    refine lv_i2b hx hb dX12_cut_6 rfl ?_
    refine lv_topi (fun x31 e32 => ?_)
    refine lv_i2l hx hb dX12_cut_7 rfl ?_
    refine lv_topl (fun x33 e34 => ?_)
    have t35 : x33.toInt = x31.toInt := by rw [e34]; exact hw_i2l _
    have rg36 := hw_rng x31
    refine lv_goto (tgt := 46) hx hb dX12_cut_8 (by decide) ?_
    exact hw_lretR (v := x33) hx hb hr hlocks hQ (⟨x33, rfl⟩) dX12_cut_46

set_option maxHeartbeats 4000000 in
set_option maxRecDepth 100000 in
theorem k_X12_rack (l : Launch) (D : hw_D) (G : Nat → Nat) (h0 : Nat) (p1 : Int32) (p2 : Int32) (p3 : Int32) (sz : Nat) (rm : Nat → Nat) (ud_m ky_m lo_m wk_m dk_m ln_m sm_m fi_m be_m rk_m rl_m rw_m cl_m dg_m : Int32) (fla : Nat → Int32) (fsz : Nat → Int32) (G0 : G h0 = 9) (Rm : hw_RM G rm) (gud_m : 0 ≤ ud_m.toInt ∧ ud_m.toInt ≤ 8) (gky_m : 0 ≤ ky_m.toInt ∧ ky_m.toInt ≤ 7) (glo_m : 0 ≤ lo_m.toInt ∧ lo_m.toInt ≤ 7) (gwk_m : 0 ≤ wk_m.toInt ∧ wk_m.toInt ≤ 3) (gln_m : 0 ≤ ln_m.toInt ∧ ln_m.toInt ≤ 200) (gsm_m : 0 ≤ sm_m.toInt ∧ sm_m.toInt ≤ 6) (gfi_m : 0 ≤ fi_m.toInt ∧ fi_m.toInt ≤ 200) (gbe_m : 0 ≤ be_m.toInt ∧ be_m.toInt ≤ 200) (grk_m : 0 ≤ rk_m.toInt ∧ rk_m.toInt ≤ 7) (grl_m : 0 ≤ rl_m.toInt ∧ rl_m.toInt ≤ 7) (grw_m : 0 ≤ rw_m.toInt ∧ rw_m.toInt ≤ 3) (gdg_m : 0 ≤ dg_m.toInt ∧ dg_m.toInt ≤ 1) (qsz : ∀ j, j < 4 → (-1) ≤ (fsz j).toInt ∧ (fsz j).toInt ≤ 24) : Met l yX12_rack wsX12_rack ({ frames := 2, cells := 0, slots := 0, locals := 45 } : Room) (hw_PC D G [.ref h0, .int p1, .int p2, .int p3] sz (fun H => va_at D.1 vwCl (h0, .inr (11, hw_LM rm ud_m ky_m lo_m wk_m dk_m ln_m sm_m fi_m be_m rk_m rl_m rw_m cl_m dg_m)) H ∧ va_at D.1 vwCl ((rm 41), .inl (D.2.1 0, 4, .inl fla)) H ∧ va_at D.1 vwCl ((rm 42), .inl (D.2.1 0, 4, .inl fsz)) H)) (hw_QM (fun v H => (∃ (fla2 : Nat → Int32) (fsz2 : Nat → Int32), v = some (.int (-2)) ∧ hw_HT D G H ∧ va_at D.1 vwCl (h0, .inr (11, hw_LM rm ud_m ky_m lo_m wk_m dk_m ln_m sm_m fi_m be_m rk_m rl_m rw_m cl_m dg_m)) H ∧ va_at D.1 vwCl ((rm 41), .inl (D.2.1 0, 4, .inl fla2)) H ∧ va_at D.1 vwCl ((rm 42), .inl (D.2.1 0, 4, .inl fsz2)) H ∧ ((p1.toInt < 0 ∨ 3 < p1.toInt)) ∧ fla2 = fla ∧ fsz2 = fsz) ∨ (∃ (fla2 : Nat → Int32) (fsz2 : Nat → Int32), v = some (.int (-3)) ∧ hw_HT D G H ∧ va_at D.1 vwCl (h0, .inr (11, hw_LM rm ud_m ky_m lo_m wk_m dk_m ln_m sm_m fi_m be_m rk_m rl_m rw_m cl_m dg_m)) H ∧ va_at D.1 vwCl ((rm 41), .inl (D.2.1 0, 4, .inl fla2)) H ∧ va_at D.1 vwCl ((rm 42), .inl (D.2.1 0, 4, .inl fsz2)) H ∧ ((0 ≤ p1.toInt ∧ p1.toInt ≤ 3)) ∧ (p2.toInt < 0 ∨ 4 < p2.toInt ∨ 24 < p3.toInt) ∧ fla2 = fla ∧ fsz2 = fsz) ∨ (∃ (fla2 : Nat → Int32) (fsz2 : Nat → Int32), v = some (.int (-14)) ∧ hw_HT D G H ∧ va_at D.1 vwCl (h0, .inr (11, hw_LM rm ud_m ky_m lo_m wk_m dk_m ln_m sm_m fi_m be_m rk_m rl_m rw_m cl_m dg_m)) H ∧ va_at D.1 vwCl ((rm 41), .inl (D.2.1 0, 4, .inl fla2)) H ∧ va_at D.1 vwCl ((rm 42), .inl (D.2.1 0, 4, .inl fsz2)) H ∧ ((0 ≤ p1.toInt ∧ p1.toInt ≤ 3)) ∧ (0 ≤ p2.toInt ∧ p2.toInt ≤ 4 ∧ p3.toInt < 0) ∧ fla2 = fla ∧ fsz2 = fsz) ∨ (∃ (r : Int32) (fla2 : Nat → Int32) (fsz2 : Nat → Int32), v = some (.int r) ∧ hw_HT D G H ∧ va_at D.1 vwCl (h0, .inr (11, hw_LM rm ud_m ky_m lo_m wk_m dk_m ln_m sm_m fi_m be_m rk_m rl_m rw_m cl_m dg_m)) H ∧ va_at D.1 vwCl ((rm 41), .inl (D.2.1 0, 4, .inl fla2)) H ∧ va_at D.1 vwCl ((rm 42), .inl (D.2.1 0, 4, .inl fsz2)) H ∧ ((0 ≤ p1.toInt ∧ p1.toInt ≤ 3)) ∧ (0 ≤ p2.toInt ∧ p2.toInt ≤ 4 ∧ 0 ≤ p3.toInt ∧ p3.toInt ≤ 24) ∧ r = p3 ∧ fla2 = upd fla p1.toNatClampNeg p2 ∧ fsz2 = upd fsz p1.toNatClampNeg p3)) (hw_AW G [81, 82, 83] sz)) 0 0 (hw_AW G [81, 82, 83] sz) := by
  refine hw_met (cc := cX12_rack) (maxL := 5) (ret := (some .int)) (plainFor_of_name (by decide)) rfl (Nat.le_of_ble_eq_true rfl) ?_
  intro p e s m args below meth c QQ ls hsz hx hb hml hr hts hown hlocks hnm hH hK hST hF hQ hl
  subst hsz
  have hS : va_S (hw_AW G [81, 82, 83] s.heap.size) s.heap s.heap [] := va_S.rf
  obtain ⟨vm, vla, vsz⟩ := hF
  have hl : lv_has ls 5 [(0, .ref h0), (1, .int p1), (2, .int p2), (3, .int p3)] := hl
  have u_11 : ∀ w ∈ u_ws RX12 TX12 45, w.before args s = true := fun w hw => hts w ((by decide +kernel : ∀ w ∈ u_ws RX12 TX12 45, w ∈ wsX12_rack) w hw)
  have fg_96_11 : hw_FG s args m 96 11 41 := ⟨RX12, "WardWalkersModel", RX12, TX12, 45, u_11, hown, rfl, by decide, (hts (.fieldLink RX12 96 "WardWalkersModel" "lanes" "[I") (by decide +kernel)), (fun _ h9 => h9)⟩
  have fg_99_11 : hw_FG s args m 99 11 42 := ⟨RX12, "WardWalkersModel", RX12, TX12, 45, u_11, hown, rfl, by decide, (hts (.fieldLink RX12 99 "WardWalkersModel" "sizes" "[I") (by decide +kernel)), (fun _ h9 => h9)⟩
  have fg_102_11 : hw_FG s args m 102 11 43 := ⟨RX12, "WardWalkersModel", RX12, TX12, 45, u_11, hown, rfl, by decide, (hts (.fieldLink RX12 102 "WardWalkersModel" "things" "[J") (by decide +kernel)), (fun _ h9 => h9)⟩
  refine lv_iload_n hx hb dX12_rack_0 rfl (lv_at hl 1 rfl) ?_
  refine hw_cR (va_runS (As := [.int p1]) (rest := []) ⟨hx, hb, hml, hown, hts⟩ (k_X12_isRack l D G p1 _) (va_cwS 1 hts gX12_rack_X12_isRack rfl rfl rfl (by decide +kernel) ⟨Nat.le_of_ble_eq_true rfl, Nat.le_of_ble_eq_true rfl⟩) (hw_pS hH hK hST hS (by decide) (fun _ h => Or.inl h) trivial) rfl rfl hl.1 rfl (lv_room (Nat.le_of_ble_eq_true rfl)) dX12_rack_1 ⟨Nat.le_of_ble_eq_true rfl, Nat.le_of_ble_eq_true rfl⟩) (fun v hp => ?_)
  rcases hp with ⟨rfl, q1⟩ | ⟨rfl, q2⟩
  · refine lv_if_ne (tgt := 10) hx hb dX12_rack_4 (by decide) (fun c3 => ?_) (fun c3 => ?_)
    · refine lv_iload_n hx hb dX12_rack_10 rfl (lv_at hl 2 rfl) ?_
      refine lv_i2l hx hb dX12_rack_11 rfl ?_
      refine lv_topl (fun x4 e5 => ?_)
      have t6 : x4.toInt = p2.toInt := by rw [e5]; exact hw_i2l _
      have rg7 := hw_rng p2
      refine lv_lconst (v := 0) hx hb dX12_rack_12 (by decide) ?_
      refine lv_ldc2 (v := 4) hx hb hown (hts (.constantLong RX12 252 (4)) (by decide +kernel)) dX12_rack_13 ?_
      refine hw_cR (va_runS (As := [.long x4, .long 0, .long 4]) (rest := []) ⟨hx, hb, hml, hown, hts⟩ (k_X12_in l D G x4 0 4 _) (va_cwS 3 hts gX12_rack_X12_in rfl rfl rfl (by decide +kernel) ⟨Nat.le_of_ble_eq_true rfl, Nat.le_of_ble_eq_true rfl⟩) (hw_pS hH hK hST hS (by decide) (fun _ h => Or.inl h) trivial) rfl rfl hl.1 rfl (lv_room (Nat.le_of_ble_eq_true rfl)) dX12_rack_16 ⟨Nat.le_of_ble_eq_true rfl, Nat.le_of_ble_eq_true rfl⟩) (fun v hp => ?_)
      have l8 : (0 : Int64).toInt = 0 := by decide
      have l9 : (4 : Int64).toInt = 4 := by decide
      rcases hp with ⟨rfl, q10⟩ | ⟨rfl, q11⟩
      · refine lv_if_eq (tgt := 28) hx hb dX12_rack_19 (by decide) (fun c12 => ?_) (fun c12 => ?_)
        · exact absurd c12 (by decide)
        · refine lv_iload_n hx hb dX12_rack_22 rfl (lv_at hl 3 rfl) ?_
          refine lv_bipush (v := 24) hx hb dX12_rack_23 (by decide) ?_
          refine lv_icmp_le (tgt := 31) hx hb dX12_rack_25 (by decide) (fun c13 => ?_) (fun c13 => ?_)
          · have b14 : p3.toInt ≤ 24 := hw_ile c13
            refine lv_iload_n hx hb dX12_rack_31 rfl (lv_at hl 3 rfl) ?_
            refine lv_if_ge (tgt := 38) hx hb dX12_rack_32 (by decide) (fun c15 => ?_) (fun c15 => ?_)
            · have b16 : 0 ≤ p3.toInt := hw_ile c15
              refine lv_aload_n hx hb dX12_rack_38 rfl (lv_at hl 0 rfl) ?_
              refine hw_get hx hb fg_96_11 hK vm rfl dX12_rack_39 ?_
              refine lv_iload_n hx hb dX12_rack_42 rfl (lv_at hl 1 rfl) ?_
              refine lv_iload_n hx hb dX12_rack_43 rfl (lv_at hl 2 rfl) ?_
              refine hw_iast hx hb hK hH vla (hw_in (by omega) (by omega)) (fun _ => by rw [(hw_RM_41 Rm)]; exact ⟨_, rfl⟩) hS (hw_AWi (hw_RM_41 Rm) (by decide)) dX12_rack_44 (fun H locs hH vla oq hz hS => ?_)
              have vm := va_at.kept vm (oq _ (hw_ne G0 (hw_RM_41 Rm) (by decide)))
              have vsz := va_at.kept vsz (oq _ (hw_ne (hw_RM_42 Rm) (hw_RM_41 Rm) (by decide)))
              obtain ⟨f17, e18⟩ : ∃ z, z = upd fla p1.toNatClampNeg p2 := ⟨_, rfl⟩
              rw [← e18] at vla
              refine lv_aload_n hx hb dX12_rack_45 rfl (lv_at hl 0 rfl) ?_
              refine hw_get hx hb fg_99_11 hK vm rfl dX12_rack_46 ?_
              refine lv_iload_n hx hb dX12_rack_49 rfl (lv_at hl 1 rfl) ?_
              refine lv_iload_n hx hb dX12_rack_50 rfl (lv_at hl 3 rfl) ?_
              refine hw_iast hx hb hK hH vsz (hw_in (by omega) (by omega)) (fun _ => by rw [(hw_RM_42 Rm)]; refine ⟨_, rfl, fun j hj => ?_⟩; unfold upd; split; exact ⟨by first | decide | omega, by first | decide | omega⟩; exact qsz j hj) hS (hw_AWi (hw_RM_42 Rm) (by decide)) dX12_rack_51 (fun H locs hH vsz oq hz hS => ?_)
              have vm := va_at.kept vm (oq _ (hw_ne G0 (hw_RM_42 Rm) (by decide)))
              have vla := va_at.kept vla (oq _ (hw_ne (hw_RM_41 Rm) (hw_RM_42 Rm) (by decide)))
              obtain ⟨f19, e20⟩ : ∃ z, z = upd fsz p1.toNatClampNeg p3 := ⟨_, rfl⟩
              rw [← e20] at vsz
              have q21 : ∀ j, j < 4 → (-1) ≤ (f19 j).toInt ∧ (f19 j).toInt ≤ 24 := by
                intro j hj; rw [e20]; unfold upd; split
                · exact ⟨by first | decide | omega, by first | decide | omega⟩
                · exact qsz j hj
              refine lv_iconst (v := 0) hx hb dX12_rack_52 (by decide) ?_
              refine lv_istore (lv' := [(4, .int 0), (0, .ref h0), (1, .int p1), (2, .int p2), (3, .int p3)]) hx hb dX12_rack_53 hl (by decide) rfl (fun ls hl => ?_)
              have L55 : ∀ (n24 : Nat) (y4_22 : Int32) (hm : (24 - y4_22.toInt).toNat < n24) (g23 : 0 ≤ y4_22.toInt ∧ y4_22.toInt ≤ 24) (H : Heap) (locs : List Loc) (hH : hw_HT D G H) (vm : va_at D.1 vwCl (h0, .inr (11, hw_LM rm ud_m ky_m lo_m wk_m dk_m ln_m sm_m fi_m be_m rk_m rl_m rw_m cl_m dg_m)) H) (vla : va_at D.1 vwCl ((rm 41), .inl (D.2.1 0, 4, .inl f17)) H) (vsz : va_at D.1 vwCl ((rm 42), .inl (D.2.1 0, 4, .inl f19)) H) (hS : va_S (hw_AW G [81, 82, 83] s.heap.size) s.heap H locs) (ls : Array Slot) (hl : lv_has ls 5 [(4, .int y4_22), (0, .ref h0), (1, .int p1), (2, .int p2), (3, .int p3)]), W p l e ({ frames := 2, cells := 0, slots := 0, locals := 45 } : Room) s m args below meth c H locs 0 0 QQ (F0 m 55 ls []) := by
                intro n24
                induction n24 with
                | zero => intro y4_22 hm; exact absurd hm (Nat.not_lt_zero _)
                | succ n24 ih55 =>
                  intro y4_22 hm g23 H locs hH vm vla vsz hS ls hl
                  refine lv_iload hx hb dX12_rack_55 (lv_at hl 0 rfl) ?_
                  refine lv_iload_n hx hb dX12_rack_57 rfl (lv_at hl 4 rfl) ?_
                  refine lv_icmp_ge (tgt := 80) hx hb dX12_rack_58 (by decide) (fun c25 => ?_) (fun c25 => ?_)
                  · have b26 : p3.toInt ≤ y4_22.toInt := hw_ile c25
                    refine lv_iload_n hx hb dX12_rack_80 rfl (lv_at hl 4 rfl) ?_
                    exact hw_iretM (v := p3) hx hb hr hlocks hQ hS rfl (Or.inr (Or.inr (Or.inr (⟨p3, f17, f19, rfl, hH, vm, vla, vsz, (by first | rfl | trivial | assumption | omega | (intros; first | rfl | assumption | omega | (exfalso; omega))), (by first | rfl | trivial | assumption | omega | (intros; first | rfl | assumption | omega | (exfalso; omega))), (by first | rfl | trivial | assumption | omega | (intros; first | rfl | assumption | omega | (exfalso; omega))), (by exact e18), (by exact e20)⟩)))) dX12_rack_81
                  · have b27 : y4_22.toInt < p3.toInt := hw_inle c25
                    refine lv_aload_n hx hb dX12_rack_61 rfl (lv_at hl 1 rfl) ?_
                    refine hw_get hx hb fg_102_11 hK vm rfl dX12_rack_62 ?_
                    refine lv_bipush (v := 24) hx hb dX12_rack_65 (by decide) ?_
                    refine lv_iload_n hx hb dX12_rack_67 rfl (lv_at hl 2 rfl) ?_
                    refine lv_imul hx hb dX12_rack_68 ?_
                    refine lv_topi (fun x28 e29 => ?_)
                    have t30 : x28.toInt = 24 * p1.toInt := by rw [e29]; exact hw_mul rfl rfl (by omega) (by omega)
                    refine lv_iload hx hb dX12_rack_69 (lv_at hl 0 rfl) ?_
                    refine lv_iadd hx hb dX12_rack_71 ?_
                    refine lv_topi (fun x31 e32 => ?_)
                    have t33 : x31.toInt = x28.toInt + y4_22.toInt := by rw [e32]; exact hw_add rfl rfl (by omega) (by omega)
                    refine lv_lconst (v := 0) hx hb dX12_rack_72 (by decide) ?_
                    obtain ⟨f34, v35⟩ := hH.a83 (hw_RM_43 Rm)
                    refine hw_last hx hb hK hH v35 (hw_in (by omega) (by omega)) (fun _ => by rw [(hw_RM_43 Rm)]; exact ⟨_, rfl⟩) hS (hw_AWi (hw_RM_43 Rm) (by decide)) dX12_rack_73 (fun H locs hH v35 oq hz hS => ?_)
                    have vm := va_at.kept vm (oq _ (hw_ne G0 (hw_RM_43 Rm) (by decide)))
                    have vla := va_at.kept vla (oq _ (hw_ne (hw_RM_41 Rm) (hw_RM_43 Rm) (by decide)))
                    have vsz := va_at.kept vsz (oq _ (hw_ne (hw_RM_42 Rm) (hw_RM_43 Rm) (by decide)))
                    obtain ⟨x37, e38⟩ : ∃ y : Int32, y = y4_22 + 1 := ⟨_, rfl⟩
                    refine lv_iinc (v := x37) (lv' := [(4, .int x37), (0, .ref h0), (1, .int p1), (2, .int p2), (3, .int p3)]) hx hb dX12_rack_74 hl (k := 0) rfl (by rw [e38]; rfl) (by decide) rfl (fun ls hl => ?_)
                    have t39 : x37.toInt = y4_22.toInt + 1 := by rw [e38]; exact hw_add rfl rfl (by omega) (by omega)
                    refine lv_goto (tgt := 55) hx hb dX12_rack_77 (by decide) ?_
                    exact ih55 x37 (by first | omega | omega) ⟨by first | decide | omega, by first | decide | omega⟩ _ _ hH vm vla vsz hS _ (lv_sub hl [0, 1, 2, 3, 4] rfl)
              exact L55 _ 0 (Nat.lt_succ_self _) ⟨by first | decide | omega, by first | decide | omega⟩ _ _ hH vm vla vsz hS _ (lv_sub hl [0, 1, 2, 3, 4] rfl)
            · have b40 : p3.toInt < 0 := hw_inle c15
              refine lv_bipush (v := (-14)) hx hb dX12_rack_35 (by decide) ?_
              exact hw_iretM (v := (-14)) hx hb hr hlocks hQ hS rfl (Or.inr (Or.inr (Or.inl ⟨fla, fsz, rfl, hH, vm, vla, vsz, (by first | rfl | trivial | assumption | omega | (intros; first | rfl | assumption | omega | (exfalso; omega))), (by first | rfl | trivial | assumption | omega | (intros; first | rfl | assumption | omega | (exfalso; omega))), (by first | rfl | trivial | assumption | omega | (intros; first | rfl | assumption | omega | (exfalso; omega))), (by first | rfl | trivial | assumption | omega | (intros; first | rfl | assumption | omega | (exfalso; omega)))⟩))) dX12_rack_37
          · have b41 : 24 < p3.toInt := hw_inle c13
            refine lv_bipush (v := (-3)) hx hb dX12_rack_28 (by decide) ?_
            exact hw_iretM (v := (-3)) hx hb hr hlocks hQ hS rfl (Or.inr (Or.inl ⟨fla, fsz, rfl, hH, vm, vla, vsz, (by first | rfl | trivial | assumption | omega | (intros; first | rfl | assumption | omega | (exfalso; omega))), (by first | rfl | trivial | assumption | omega | (intros; first | rfl | assumption | omega | (exfalso; omega))), (by first | rfl | trivial | assumption | omega | (intros; first | rfl | assumption | omega | (exfalso; omega))), (by first | rfl | trivial | assumption | omega | (intros; first | rfl | assumption | omega | (exfalso; omega)))⟩)) dX12_rack_30
      · refine lv_if_eq (tgt := 28) hx hb dX12_rack_19 (by decide) (fun c42 => ?_) (fun c42 => ?_)
        · refine lv_bipush (v := (-3)) hx hb dX12_rack_28 (by decide) ?_
          exact hw_iretM (v := (-3)) hx hb hr hlocks hQ hS rfl (Or.inr (Or.inl ⟨fla, fsz, rfl, hH, vm, vla, vsz, (by first | rfl | trivial | assumption | omega | (intros; first | rfl | assumption | omega | (exfalso; omega))), (by first | rfl | trivial | assumption | omega | (intros; first | rfl | assumption | omega | (exfalso; omega))), (by first | rfl | trivial | assumption | omega | (intros; first | rfl | assumption | omega | (exfalso; omega))), (by first | rfl | trivial | assumption | omega | (intros; first | rfl | assumption | omega | (exfalso; omega)))⟩)) dX12_rack_30
        · exact absurd c42 (by decide)
    · exact absurd c3 (by decide)
  · refine lv_if_ne (tgt := 10) hx hb dX12_rack_4 (by decide) (fun c43 => ?_) (fun c43 => ?_)
    · exact absurd c43 (by decide)
    · refine lv_bipush (v := (-2)) hx hb dX12_rack_7 (by decide) ?_
      exact hw_iretM (v := (-2)) hx hb hr hlocks hQ hS rfl (Or.inl ⟨fla, fsz, rfl, hH, vm, vla, vsz, (by first | rfl | trivial | assumption | omega | (intros; first | rfl | assumption | omega | (exfalso; omega))), (by first | rfl | trivial | assumption | omega | (intros; first | rfl | assumption | omega | (exfalso; omega))), (by first | rfl | trivial | assumption | omega | (intros; first | rfl | assumption | omega | (exfalso; omega)))⟩) dX12_rack_9

set_option maxHeartbeats 4000000 in
set_option maxRecDepth 100000 in
theorem k_X12_noRack (l : Launch) (D : hw_D) (G : Nat → Nat) (h0 : Nat) (p1 : Int32) (p2 : Int32) (sz : Nat) (rm : Nat → Nat) (ud_m ky_m lo_m wk_m dk_m ln_m sm_m fi_m be_m rk_m rl_m rw_m cl_m dg_m : Int32) (fla : Nat → Int32) (fsz : Nat → Int32) (G0 : G h0 = 9) (Rm : hw_RM G rm) (gud_m : 0 ≤ ud_m.toInt ∧ ud_m.toInt ≤ 8) (gky_m : 0 ≤ ky_m.toInt ∧ ky_m.toInt ≤ 7) (glo_m : 0 ≤ lo_m.toInt ∧ lo_m.toInt ≤ 7) (gwk_m : 0 ≤ wk_m.toInt ∧ wk_m.toInt ≤ 3) (gln_m : 0 ≤ ln_m.toInt ∧ ln_m.toInt ≤ 200) (gsm_m : 0 ≤ sm_m.toInt ∧ sm_m.toInt ≤ 6) (gfi_m : 0 ≤ fi_m.toInt ∧ fi_m.toInt ≤ 200) (gbe_m : 0 ≤ be_m.toInt ∧ be_m.toInt ≤ 200) (grk_m : 0 ≤ rk_m.toInt ∧ rk_m.toInt ≤ 7) (grl_m : 0 ≤ rl_m.toInt ∧ rl_m.toInt ≤ 7) (grw_m : 0 ≤ rw_m.toInt ∧ rw_m.toInt ≤ 3) (gdg_m : 0 ≤ dg_m.toInt ∧ dg_m.toInt ≤ 1) (qsz : ∀ j, j < 4 → (-1) ≤ (fsz j).toInt ∧ (fsz j).toInt ≤ 24) (hr1 : 0 ≤ p1.toInt ∧ p1.toInt ≤ 3) : Met l yX12_noRack wsX12_noRack ({ frames := 0, cells := 0, slots := 0, locals := 0 } : Room) (hw_PC D G [.ref h0, .int p1, .int p2] sz (fun H => va_at D.1 vwCl (h0, .inr (11, hw_LM rm ud_m ky_m lo_m wk_m dk_m ln_m sm_m fi_m be_m rk_m rl_m rw_m cl_m dg_m)) H ∧ va_at D.1 vwCl ((rm 41), .inl (D.2.1 0, 4, .inl fla)) H ∧ va_at D.1 vwCl ((rm 42), .inl (D.2.1 0, 4, .inl fsz)) H)) (hw_QR (fun v => (v = .int (-11) ∧ (fsz p1.toNatClampNeg).toInt < 0) ∨ (v = .int (-12) ∧ 0 ≤ (fsz p1.toNatClampNeg).toInt ∧ (fla p1.toNatClampNeg).toInt ≠ p2.toInt) ∨ (v = .int 0 ∧ 0 ≤ (fsz p1.toNatClampNeg).toInt ∧ (fla p1.toNatClampNeg).toInt = p2.toInt))) 0 0 (fun _ => False) := by
  refine hw_met (cc := cX12_noRack) (maxL := 3) (ret := (some .int)) (plainFor_of_name (by decide)) rfl (Nat.le_of_ble_eq_true rfl) ?_
  intro p e s m args below meth c QQ ls hsz hx hb hml hr hts hown hlocks hnm hH hK hST hF hQ hl
  subst hsz
  have hS : va_S (hw_AW G [] s.heap.size) s.heap s.heap [] := va_S.rf
  obtain ⟨vm, vla, vsz⟩ := hF
  have hl : lv_has ls 3 [(0, .ref h0), (1, .int p1), (2, .int p2)] := hl
  have u_11 : ∀ w ∈ u_ws RX12 TX12 45, w.before args s = true := fun w hw => hts w ((by decide +kernel : ∀ w ∈ u_ws RX12 TX12 45, w ∈ wsX12_noRack) w hw)
  have fg_99_11 : hw_FG s args m 99 11 42 := ⟨RX12, "WardWalkersModel", RX12, TX12, 45, u_11, hown, rfl, by decide, (hts (.fieldLink RX12 99 "WardWalkersModel" "sizes" "[I") (by decide +kernel)), (fun _ h9 => h9)⟩
  have fg_96_11 : hw_FG s args m 96 11 41 := ⟨RX12, "WardWalkersModel", RX12, TX12, 45, u_11, hown, rfl, by decide, (hts (.fieldLink RX12 96 "WardWalkersModel" "lanes" "[I") (by decide +kernel)), (fun _ h9 => h9)⟩
  refine lv_aload_n hx hb dX12_noRack_0 rfl (lv_at hl 0 rfl) ?_
  refine hw_get hx hb fg_99_11 hK vm rfl dX12_noRack_1 ?_
  refine lv_iload_n hx hb dX12_noRack_4 rfl (lv_at hl 1 rfl) ?_
  refine hw_iald hx hb hK vsz (hw_in (by omega) (by omega)) dX12_noRack_5 ?_
  refine lv_topi (fun x1 e2 => ?_)
  have n4 : vp_in p1 4 := (hw_in (by omega) (by omega))
  have t3 : (-1) ≤ x1.toInt ∧ x1.toInt ≤ 24 := by rw [e2]; exact qsz _ (Nat.not_le.mp fun q => n4 (Or.inr q))
  have hsz : x1.toInt = (fsz p1.toNatClampNeg).toInt := by rw [e2]
  refine lv_if_ge (tgt := 14) hx hb dX12_noRack_6 (by decide) (fun c5 => ?_) (fun c5 => ?_)
  · have b6 : 0 ≤ x1.toInt := hw_ile c5
    refine lv_aload_n hx hb dX12_noRack_14 rfl (lv_at hl 0 rfl) ?_
    refine hw_get hx hb fg_96_11 hK vm rfl dX12_noRack_15 ?_
    refine lv_iload_n hx hb dX12_noRack_18 rfl (lv_at hl 1 rfl) ?_
    refine hw_iald hx hb hK vla (hw_in (by omega) (by omega)) dX12_noRack_19 ?_
    refine lv_topi (fun x7 e8 => ?_)
    have hla : x7.toInt = (fla p1.toNatClampNeg).toInt := by rw [e8]
    refine lv_iload_n hx hb dX12_noRack_20 rfl (lv_at hl 2 rfl) ?_
    refine lv_icmp_eq (tgt := 29) hx hb dX12_noRack_21 (by decide) (fun c9 => ?_) (fun c9 => ?_)
    · have b10 : x7.toInt = p2.toInt := hw_ieq c9
      refine lv_iconst (v := 0) hx hb dX12_noRack_29 (by decide) ?_
      exact hw_iretR (v := 0) hx hb hr hlocks hQ rfl (Or.inr (Or.inr (⟨rfl, (by first | rfl | trivial | assumption | omega | (intros; first | rfl | assumption | omega | (exfalso; omega))), (by first | rfl | trivial | assumption | omega | (intros; first | rfl | assumption | omega | (exfalso; omega)))⟩))) dX12_noRack_30
    · have b11 : x7.toInt ≠ p2.toInt := hw_ine c9
      refine lv_bipush (v := (-12)) hx hb dX12_noRack_24 (by decide) ?_
      refine lv_goto (tgt := 30) hx hb dX12_noRack_26 (by decide) ?_
      exact hw_iretR (v := (-12)) hx hb hr hlocks hQ rfl (Or.inr (Or.inl ⟨rfl, (by first | rfl | trivial | assumption | omega | (intros; first | rfl | assumption | omega | (exfalso; omega))), (by first | rfl | trivial | assumption | omega | (intros; first | rfl | assumption | omega | (exfalso; omega)))⟩)) dX12_noRack_30
  · have b12 : x1.toInt < 0 := hw_inle c5
    refine lv_bipush (v := (-11)) hx hb dX12_noRack_9 (by decide) ?_
    refine lv_goto (tgt := 30) hx hb dX12_noRack_11 (by decide) ?_
    exact hw_iretR (v := (-11)) hx hb hr hlocks hQ rfl (Or.inl ⟨rfl, (by first | rfl | trivial | assumption | omega | (intros; first | rfl | assumption | omega | (exfalso; omega)))⟩) dX12_noRack_30

set_option maxHeartbeats 4000000 in
set_option maxRecDepth 100000 in
theorem k_X12_hang (l : Launch) (D : hw_D) (G : Nat → Nat) (h0 : Nat) (p1 : Int32) (p2 : Int32) (p3 : Int32) (p4 : Int64) (sz : Nat) (rm : Nat → Nat) (ud_m ky_m lo_m wk_m dk_m ln_m sm_m fi_m be_m rk_m rl_m rw_m cl_m dg_m : Int32) (fla : Nat → Int32) (fsz : Nat → Int32) (G0 : G h0 = 9) (Rm : hw_RM G rm) (gud_m : 0 ≤ ud_m.toInt ∧ ud_m.toInt ≤ 8) (gky_m : 0 ≤ ky_m.toInt ∧ ky_m.toInt ≤ 7) (glo_m : 0 ≤ lo_m.toInt ∧ lo_m.toInt ≤ 7) (gwk_m : 0 ≤ wk_m.toInt ∧ wk_m.toInt ≤ 3) (gln_m : 0 ≤ ln_m.toInt ∧ ln_m.toInt ≤ 200) (gsm_m : 0 ≤ sm_m.toInt ∧ sm_m.toInt ≤ 6) (gfi_m : 0 ≤ fi_m.toInt ∧ fi_m.toInt ≤ 200) (gbe_m : 0 ≤ be_m.toInt ∧ be_m.toInt ≤ 200) (grk_m : 0 ≤ rk_m.toInt ∧ rk_m.toInt ≤ 7) (grl_m : 0 ≤ rl_m.toInt ∧ rl_m.toInt ≤ 7) (grw_m : 0 ≤ rw_m.toInt ∧ rw_m.toInt ≤ 3) (gdg_m : 0 ≤ dg_m.toInt ∧ dg_m.toInt ≤ 1) (qsz : ∀ j, j < 4 → (-1) ≤ (fsz j).toInt ∧ (fsz j).toInt ≤ 24) : Met l yX12_hang wsX12_hang ({ frames := 2, cells := 0, slots := 0, locals := 45 } : Room) (hw_PC D G [.ref h0, .int p1, .int p2, .int p3, .long p4] sz (fun H => va_at D.1 vwCl (h0, .inr (11, hw_LM rm ud_m ky_m lo_m wk_m dk_m ln_m sm_m fi_m be_m rk_m rl_m rw_m cl_m dg_m)) H ∧ va_at D.1 vwCl ((rm 41), .inl (D.2.1 0, 4, .inl fla)) H ∧ va_at D.1 vwCl ((rm 42), .inl (D.2.1 0, 4, .inl fsz)) H)) (hw_QM (fun v H => (v = some (.int (-2)) ∧ hw_HT D G H ∧ va_at D.1 vwCl (h0, .inr (11, hw_LM rm ud_m ky_m lo_m wk_m dk_m ln_m sm_m fi_m be_m rk_m rl_m rw_m cl_m dg_m)) H ∧ va_at D.1 vwCl ((rm 41), .inl (D.2.1 0, 4, .inl fla)) H ∧ va_at D.1 vwCl ((rm 42), .inl (D.2.1 0, 4, .inl fsz)) H ∧ ((p1.toInt < 0 ∨ 3 < p1.toInt))) ∨ (v = some (.int (-3)) ∧ hw_HT D G H ∧ va_at D.1 vwCl (h0, .inr (11, hw_LM rm ud_m ky_m lo_m wk_m dk_m ln_m sm_m fi_m be_m rk_m rl_m rw_m cl_m dg_m)) H ∧ va_at D.1 vwCl ((rm 41), .inl (D.2.1 0, 4, .inl fla)) H ∧ va_at D.1 vwCl ((rm 42), .inl (D.2.1 0, 4, .inl fsz)) H ∧ ((0 ≤ p1.toInt ∧ p1.toInt ≤ 3)) ∧ (p2.toInt < 0 ∨ 4 < p2.toInt)) ∨ (v = some (.int (-11)) ∧ hw_HT D G H ∧ va_at D.1 vwCl (h0, .inr (11, hw_LM rm ud_m ky_m lo_m wk_m dk_m ln_m sm_m fi_m be_m rk_m rl_m rw_m cl_m dg_m)) H ∧ va_at D.1 vwCl ((rm 41), .inl (D.2.1 0, 4, .inl fla)) H ∧ va_at D.1 vwCl ((rm 42), .inl (D.2.1 0, 4, .inl fsz)) H ∧ ((0 ≤ p1.toInt ∧ p1.toInt ≤ 3)) ∧ (0 ≤ p2.toInt ∧ p2.toInt ≤ 4) ∧ (fsz p1.toNatClampNeg).toInt < 0) ∨ (v = some (.int (-12)) ∧ hw_HT D G H ∧ va_at D.1 vwCl (h0, .inr (11, hw_LM rm ud_m ky_m lo_m wk_m dk_m ln_m sm_m fi_m be_m rk_m rl_m rw_m cl_m dg_m)) H ∧ va_at D.1 vwCl ((rm 41), .inl (D.2.1 0, 4, .inl fla)) H ∧ va_at D.1 vwCl ((rm 42), .inl (D.2.1 0, 4, .inl fsz)) H ∧ ((0 ≤ p1.toInt ∧ p1.toInt ≤ 3)) ∧ (0 ≤ p2.toInt ∧ p2.toInt ≤ 4) ∧ 0 ≤ (fsz p1.toNatClampNeg).toInt ∧ (fla p1.toNatClampNeg).toInt ≠ p2.toInt) ∨ (v = some (.int (-13)) ∧ hw_HT D G H ∧ va_at D.1 vwCl (h0, .inr (11, hw_LM rm ud_m ky_m lo_m wk_m dk_m ln_m sm_m fi_m be_m rk_m rl_m rw_m cl_m dg_m)) H ∧ va_at D.1 vwCl ((rm 41), .inl (D.2.1 0, 4, .inl fla)) H ∧ va_at D.1 vwCl ((rm 42), .inl (D.2.1 0, 4, .inl fsz)) H ∧ ((0 ≤ p1.toInt ∧ p1.toInt ≤ 3)) ∧ (0 ≤ p2.toInt ∧ p2.toInt ≤ 4) ∧ 0 ≤ (fsz p1.toNatClampNeg).toInt ∧ (fla p1.toNatClampNeg).toInt = p2.toInt ∧ (p3.toInt < 0 ∨ (fsz p1.toNatClampNeg).toInt < p3.toInt + 1)) ∨ (v = some (.int 1) ∧ hw_HT D G H ∧ va_at D.1 vwCl (h0, .inr (11, hw_LM rm ud_m ky_m lo_m wk_m dk_m ln_m sm_m fi_m be_m rk_m rl_m rw_m cl_m dg_m)) H ∧ va_at D.1 vwCl ((rm 41), .inl (D.2.1 0, 4, .inl fla)) H ∧ va_at D.1 vwCl ((rm 42), .inl (D.2.1 0, 4, .inl fsz)) H ∧ ((0 ≤ p1.toInt ∧ p1.toInt ≤ 3)) ∧ (0 ≤ p2.toInt ∧ p2.toInt ≤ 4) ∧ 0 ≤ (fsz p1.toNatClampNeg).toInt ∧ (fla p1.toNatClampNeg).toInt = p2.toInt ∧ (0 ≤ p3.toInt ∧ p3.toInt + 1 ≤ (fsz p1.toNatClampNeg).toInt))) (hw_AW G [83] sz)) 0 0 (hw_AW G [83] sz) := by
  refine hw_met (cc := cX12_hang) (maxL := 7) (ret := (some .int)) (plainFor_of_name (by decide)) rfl (Nat.le_of_ble_eq_true rfl) ?_
  intro p e s m args below meth c QQ ls hsz hx hb hml hr hts hown hlocks hnm hH hK hST hF hQ hl
  subst hsz
  have hS : va_S (hw_AW G [83] s.heap.size) s.heap s.heap [] := va_S.rf
  obtain ⟨vm, vla, vsz⟩ := hF
  have hl : lv_has ls 7 [(0, .ref h0), (1, .int p1), (2, .int p2), (3, .int p3), (4, .long p4)] := hl
  have u_11 : ∀ w ∈ u_ws RX12 TX12 45, w.before args s = true := fun w hw => hts w ((by decide +kernel : ∀ w ∈ u_ws RX12 TX12 45, w ∈ wsX12_hang) w hw)
  have fg_102_11 : hw_FG s args m 102 11 43 := ⟨RX12, "WardWalkersModel", RX12, TX12, 45, u_11, hown, rfl, by decide, (hts (.fieldLink RX12 102 "WardWalkersModel" "things" "[J") (by decide +kernel)), (fun _ h9 => h9)⟩
  refine lv_iload_n hx hb dX12_hang_0 rfl (lv_at hl 1 rfl) ?_
  refine hw_cR (va_runS (As := [.int p1]) (rest := []) ⟨hx, hb, hml, hown, hts⟩ (k_X12_isRack l D G p1 _) (va_cwS 1 hts gX12_hang_X12_isRack rfl rfl rfl (by decide +kernel) ⟨Nat.le_of_ble_eq_true rfl, Nat.le_of_ble_eq_true rfl⟩) (hw_pS hH hK hST hS (by decide) (fun _ h => Or.inl h) trivial) rfl rfl hl.1 rfl (lv_room (Nat.le_of_ble_eq_true rfl)) dX12_hang_1 ⟨Nat.le_of_ble_eq_true rfl, Nat.le_of_ble_eq_true rfl⟩) (fun v hp => ?_)
  rcases hp with ⟨rfl, q1⟩ | ⟨rfl, q2⟩
  · refine lv_if_ne (tgt := 10) hx hb dX12_hang_4 (by decide) (fun c3 => ?_) (fun c3 => ?_)
    · refine lv_iload_n hx hb dX12_hang_10 rfl (lv_at hl 2 rfl) ?_
      refine lv_i2l hx hb dX12_hang_11 rfl ?_
      refine lv_topl (fun x4 e5 => ?_)
      have t6 : x4.toInt = p2.toInt := by rw [e5]; exact hw_i2l _
      have rg7 := hw_rng p2
      refine lv_lconst (v := 0) hx hb dX12_hang_12 (by decide) ?_
      refine lv_ldc2 (v := 4) hx hb hown (hts (.constantLong RX12 252 (4)) (by decide +kernel)) dX12_hang_13 ?_
      refine hw_cR (va_runS (As := [.long x4, .long 0, .long 4]) (rest := []) ⟨hx, hb, hml, hown, hts⟩ (k_X12_in l D G x4 0 4 _) (va_cwS 3 hts gX12_hang_X12_in rfl rfl rfl (by decide +kernel) ⟨Nat.le_of_ble_eq_true rfl, Nat.le_of_ble_eq_true rfl⟩) (hw_pS hH hK hST hS (by decide) (fun _ h => Or.inl h) trivial) rfl rfl hl.1 rfl (lv_room (Nat.le_of_ble_eq_true rfl)) dX12_hang_16 ⟨Nat.le_of_ble_eq_true rfl, Nat.le_of_ble_eq_true rfl⟩) (fun v hp => ?_)
      have l8 : (0 : Int64).toInt = 0 := by decide
      have l9 : (4 : Int64).toInt = 4 := by decide
      rcases hp with ⟨rfl, q10⟩ | ⟨rfl, q11⟩
      · refine lv_if_ne (tgt := 25) hx hb dX12_hang_19 (by decide) (fun c12 => ?_) (fun c12 => ?_)
        · refine lv_aload_n hx hb dX12_hang_25 rfl (lv_at hl 0 rfl) ?_
          refine lv_iload_n hx hb dX12_hang_26 rfl (lv_at hl 1 rfl) ?_
          refine lv_iload_n hx hb dX12_hang_27 rfl (lv_at hl 2 rfl) ?_
          refine hw_cR (va_runV (As := [.int p1, .int p2]) (rest := []) ⟨hx, hb, hml, hown, hts⟩ (k_X12_noRack l D G h0 p1 p2 _ rm ud_m ky_m lo_m wk_m dk_m ln_m sm_m fi_m be_m rk_m rl_m rw_m cl_m dg_m fla fsz G0 Rm ⟨by first | decide | omega, by first | decide | omega⟩ ⟨by first | decide | omega, by first | decide | omega⟩ ⟨by first | decide | omega, by first | decide | omega⟩ ⟨by first | decide | omega, by first | decide | omega⟩ ⟨by first | decide | omega, by first | decide | omega⟩ ⟨by first | decide | omega, by first | decide | omega⟩ ⟨by first | decide | omega, by first | decide | omega⟩ ⟨by first | decide | omega, by first | decide | omega⟩ ⟨by first | decide | omega, by first | decide | omega⟩ ⟨by first | decide | omega, by first | decide | omega⟩ ⟨by first | decide | omega, by first | decide | omega⟩ ⟨by first | decide | omega, by first | decide | omega⟩ qsz (by first | assumption | decide | omega)) (cwV 2 hts gX12_hang_X12_noRack rfl rfl rfl (by decide +kernel) ⟨Nat.le_of_ble_eq_true rfl, Nat.le_of_ble_eq_true rfl⟩) (hw_pV (hw_rc (q := (RX12, TX12, 45)) hK vm rfl) hH hK hST hS (by decide) (fun _ h => Or.inl h) ⟨vm, vla, vsz⟩) rfl rfl hl.1 rfl (lv_room (Nat.le_of_ble_eq_true rfl)) dX12_hang_28 ⟨Nat.le_of_ble_eq_true rfl, Nat.le_of_ble_eq_true rfl⟩) (fun v hp => ?_)
          rcases hp with ⟨rfl, q13⟩ | ⟨rfl, q14, q15⟩ | ⟨rfl, q16, q17⟩
          · refine lv_istore (lv' := [(6, .int (-11)), (0, .ref h0), (1, .int p1), (2, .int p2), (3, .int p3), (4, .long p4)]) hx hb dX12_hang_31 hl (by decide) rfl (fun ls hl => ?_)
            refine lv_iload hx hb dX12_hang_33 (lv_at hl 0 rfl) ?_
            refine lv_if_eq (tgt := 41) hx hb dX12_hang_35 (by decide) (fun c18 => ?_) (fun c18 => ?_)
            · exact absurd c18 (by decide)
            · refine lv_iload hx hb dX12_hang_38 (lv_at hl 0 rfl) ?_
              exact hw_iretM (v := (-11)) hx hb hr hlocks hQ hS rfl (Or.inr (Or.inr (Or.inl ⟨rfl, hH, vm, vla, vsz, (by first | rfl | trivial | assumption | omega | (intros; first | rfl | assumption | omega | (exfalso; omega))), (by first | rfl | trivial | assumption | omega | (intros; first | rfl | assumption | omega | (exfalso; omega))), (by first | rfl | trivial | assumption | omega | (intros; first | rfl | assumption | omega | (exfalso; omega)))⟩))) dX12_hang_40
          · refine lv_istore (lv' := [(6, .int (-12)), (0, .ref h0), (1, .int p1), (2, .int p2), (3, .int p3), (4, .long p4)]) hx hb dX12_hang_31 hl (by decide) rfl (fun ls hl => ?_)
            refine lv_iload hx hb dX12_hang_33 (lv_at hl 0 rfl) ?_
            refine lv_if_eq (tgt := 41) hx hb dX12_hang_35 (by decide) (fun c19 => ?_) (fun c19 => ?_)
            · exact absurd c19 (by decide)
            · refine lv_iload hx hb dX12_hang_38 (lv_at hl 0 rfl) ?_
              exact hw_iretM (v := (-12)) hx hb hr hlocks hQ hS rfl (Or.inr (Or.inr (Or.inr (Or.inl ⟨rfl, hH, vm, vla, vsz, (by first | rfl | trivial | assumption | omega | (intros; first | rfl | assumption | omega | (exfalso; omega))), (by first | rfl | trivial | assumption | omega | (intros; first | rfl | assumption | omega | (exfalso; omega))), (by first | rfl | trivial | assumption | omega | (intros; first | rfl | assumption | omega | (exfalso; omega))), (by first | rfl | trivial | assumption | omega | (intros; first | rfl | assumption | omega | (exfalso; omega)))⟩)))) dX12_hang_40
          · refine lv_istore (lv' := [(6, .int 0), (0, .ref h0), (1, .int p1), (2, .int p2), (3, .int p3), (4, .long p4)]) hx hb dX12_hang_31 hl (by decide) rfl (fun ls hl => ?_)
            refine lv_iload hx hb dX12_hang_33 (lv_at hl 0 rfl) ?_
            refine lv_if_eq (tgt := 41) hx hb dX12_hang_35 (by decide) (fun c20 => ?_) (fun c20 => ?_)
            · refine lv_aload_n hx hb dX12_hang_41 rfl (lv_at hl 1 rfl) ?_
              refine lv_iload_n hx hb dX12_hang_42 rfl (lv_at hl 2 rfl) ?_
              refine lv_iload_n hx hb dX12_hang_43 rfl (lv_at hl 4 rfl) ?_
              refine lv_iconst (v := 1) hx hb dX12_hang_44 (by decide) ?_
              refine hw_cR (va_runV (As := [.int p1, .int p3, .int 1]) (rest := []) ⟨hx, hb, hml, hown, hts⟩ (k_X12_isSpan l D G h0 p1 p3 1 _ rm ud_m ky_m lo_m wk_m dk_m ln_m sm_m fi_m be_m rk_m rl_m rw_m cl_m dg_m fsz G0 Rm ⟨by first | decide | omega, by first | decide | omega⟩ ⟨by first | decide | omega, by first | decide | omega⟩ ⟨by first | decide | omega, by first | decide | omega⟩ ⟨by first | decide | omega, by first | decide | omega⟩ ⟨by first | decide | omega, by first | decide | omega⟩ ⟨by first | decide | omega, by first | decide | omega⟩ ⟨by first | decide | omega, by first | decide | omega⟩ ⟨by first | decide | omega, by first | decide | omega⟩ ⟨by first | decide | omega, by first | decide | omega⟩ ⟨by first | decide | omega, by first | decide | omega⟩ ⟨by first | decide | omega, by first | decide | omega⟩ ⟨by first | decide | omega, by first | decide | omega⟩ qsz (by first | assumption | decide | omega)) (cwV 3 hts gX12_hang_X12_isSpan rfl rfl rfl (by decide +kernel) ⟨Nat.le_of_ble_eq_true rfl, Nat.le_of_ble_eq_true rfl⟩) (hw_pV (hw_rc (q := (RX12, TX12, 45)) hK vm rfl) hH hK hST hS (by decide) (fun _ h => Or.inl h) ⟨vm, vsz⟩) rfl rfl hl.1 rfl (lv_room (Nat.le_of_ble_eq_true rfl)) dX12_hang_45 ⟨Nat.le_of_ble_eq_true rfl, Nat.le_of_ble_eq_true rfl⟩) (fun v hp => ?_)
              have l21 : (1 : Int32).toInt = 1 := rfl
              rcases hp with ⟨rfl, q22⟩ | ⟨rfl, q23⟩
              · refine lv_if_ne (tgt := 54) hx hb dX12_hang_48 (by decide) (fun c24 => ?_) (fun c24 => ?_)
                · have hs24 := qsz p1.toNatClampNeg (hw_i4 (by omega))
                  refine lv_aload_n hx hb dX12_hang_54 rfl (lv_at hl 1 rfl) ?_
                  refine hw_get hx hb fg_102_11 hK vm rfl dX12_hang_55 ?_
                  refine lv_bipush (v := 24) hx hb dX12_hang_58 (by decide) ?_
                  refine lv_iload_n hx hb dX12_hang_60 rfl (lv_at hl 2 rfl) ?_
                  refine lv_imul hx hb dX12_hang_61 ?_
                  refine lv_topi (fun x25 e26 => ?_)
                  have t27 : x25.toInt = 24 * p1.toInt := by rw [e26]; exact hw_mul rfl rfl (by omega) (by omega)
                  refine lv_iload_n hx hb dX12_hang_62 rfl (lv_at hl 4 rfl) ?_
                  refine lv_iadd hx hb dX12_hang_63 ?_
                  refine lv_topi (fun x28 e29 => ?_)
                  have t30 : x28.toInt = x25.toInt + p3.toInt := by rw [e29]; exact hw_add rfl rfl (by omega) (by omega)
                  refine lv_iload_n hx hb dX12_hang_64 rfl (lv_at hl 3 rfl) ?_
                  refine lv_lload hx hb dX12_hang_65 (lv_at hl 5 rfl) ?_
                  refine hw_cR (va_runS (As := [.int p2, .long p4]) (rest := [.int x28, .ref (rm 43)]) ⟨hx, hb, hml, hown, hts⟩ (k_X12_cut l D G p2 p4 _) (va_cwS 2 hts gX12_hang_X12_cut rfl rfl rfl (by decide +kernel) ⟨Nat.le_of_ble_eq_true rfl, Nat.le_of_ble_eq_true rfl⟩) (hw_pS hH hK hST hS (by decide) (fun _ h => Or.inl h) trivial) rfl rfl hl.1 rfl (lv_room (Nat.le_of_ble_eq_true rfl)) dX12_hang_67 ⟨Nat.le_of_ble_eq_true rfl, Nat.le_of_ble_eq_true rfl⟩) (fun v hp => ?_)
                  obtain ⟨x31, rfl⟩ := hp
                  obtain ⟨f32, v33⟩ := hH.a83 (hw_RM_43 Rm)
                  refine hw_last hx hb hK hH v33 (hw_in (by omega) (by omega)) (fun _ => by rw [(hw_RM_43 Rm)]; exact ⟨_, rfl⟩) hS (hw_AWi (hw_RM_43 Rm) (by decide)) dX12_hang_70 (fun H locs hH v33 oq hz hS => ?_)
                  have vm := va_at.kept vm (oq _ (hw_ne G0 (hw_RM_43 Rm) (by decide)))
                  have vla := va_at.kept vla (oq _ (hw_ne (hw_RM_41 Rm) (hw_RM_43 Rm) (by decide)))
                  have vsz := va_at.kept vsz (oq _ (hw_ne (hw_RM_42 Rm) (hw_RM_43 Rm) (by decide)))
                  refine lv_iconst (v := 1) hx hb dX12_hang_71 (by decide) ?_
                  exact hw_iretM (v := 1) hx hb hr hlocks hQ hS rfl (Or.inr (Or.inr (Or.inr (Or.inr (Or.inr (⟨rfl, hH, vm, vla, vsz, (by first | rfl | trivial | assumption | omega | (intros; first | rfl | assumption | omega | (exfalso; omega))), (by first | rfl | trivial | assumption | omega | (intros; first | rfl | assumption | omega | (exfalso; omega))), (by first | rfl | trivial | assumption | omega | (intros; first | rfl | assumption | omega | (exfalso; omega))), (by first | rfl | trivial | assumption | omega | (intros; first | rfl | assumption | omega | (exfalso; omega))), (by first | rfl | trivial | assumption | omega | (intros; first | rfl | assumption | omega | (exfalso; omega)))⟩)))))) dX12_hang_72
                · exact absurd c24 (by decide)
              · refine lv_if_ne (tgt := 54) hx hb dX12_hang_48 (by decide) (fun c35 => ?_) (fun c35 => ?_)
                · exact absurd c35 (by decide)
                · refine lv_bipush (v := (-13)) hx hb dX12_hang_51 (by decide) ?_
                  exact hw_iretM (v := (-13)) hx hb hr hlocks hQ hS rfl (Or.inr (Or.inr (Or.inr (Or.inr (Or.inl ⟨rfl, hH, vm, vla, vsz, (by first | rfl | trivial | assumption | omega | (intros; first | rfl | assumption | omega | (exfalso; omega))), (by first | rfl | trivial | assumption | omega | (intros; first | rfl | assumption | omega | (exfalso; omega))), (by first | rfl | trivial | assumption | omega | (intros; first | rfl | assumption | omega | (exfalso; omega))), (by first | rfl | trivial | assumption | omega | (intros; first | rfl | assumption | omega | (exfalso; omega))), (by first | rfl | trivial | assumption | omega | (intros; first | rfl | assumption | omega | (exfalso; omega)))⟩))))) dX12_hang_53
            · exact absurd c20 (by decide)
        · exact absurd c12 (by decide)
      · refine lv_if_ne (tgt := 25) hx hb dX12_hang_19 (by decide) (fun c36 => ?_) (fun c36 => ?_)
        · exact absurd c36 (by decide)
        · refine lv_bipush (v := (-3)) hx hb dX12_hang_22 (by decide) ?_
          exact hw_iretM (v := (-3)) hx hb hr hlocks hQ hS rfl (Or.inr (Or.inl ⟨rfl, hH, vm, vla, vsz, (by first | rfl | trivial | assumption | omega | (intros; first | rfl | assumption | omega | (exfalso; omega))), (by first | rfl | trivial | assumption | omega | (intros; first | rfl | assumption | omega | (exfalso; omega)))⟩)) dX12_hang_24
    · exact absurd c3 (by decide)
  · refine lv_if_ne (tgt := 10) hx hb dX12_hang_4 (by decide) (fun c37 => ?_) (fun c37 => ?_)
    · exact absurd c37 (by decide)
    · refine lv_bipush (v := (-2)) hx hb dX12_hang_7 (by decide) ?_
      exact hw_iretM (v := (-2)) hx hb hr hlocks hQ hS rfl (Or.inl ⟨rfl, hH, vm, vla, vsz, (by first | rfl | trivial | assumption | omega | (intros; first | rfl | assumption | omega | (exfalso; omega)))⟩) dX12_hang_9

set_option maxHeartbeats 4000000 in
set_option maxRecDepth 100000 in
theorem k_X12_look (l : Launch) (D : hw_D) (G : Nat → Nat) (h0 : Nat) (p1 : Int32) (p2 : Int32) (sz : Nat) (rm : Nat → Nat) (ud_m ky_m lo_m wk_m dk_m ln_m sm_m fi_m be_m rk_m rl_m rw_m cl_m dg_m : Int32) (fsz : Nat → Int32) (G0 : G h0 = 9) (Rm : hw_RM G rm) (gud_m : 0 ≤ ud_m.toInt ∧ ud_m.toInt ≤ 8) (gky_m : 0 ≤ ky_m.toInt ∧ ky_m.toInt ≤ 7) (glo_m : 0 ≤ lo_m.toInt ∧ lo_m.toInt ≤ 7) (gwk_m : 0 ≤ wk_m.toInt ∧ wk_m.toInt ≤ 3) (gln_m : 0 ≤ ln_m.toInt ∧ ln_m.toInt ≤ 200) (gsm_m : 0 ≤ sm_m.toInt ∧ sm_m.toInt ≤ 6) (gfi_m : 0 ≤ fi_m.toInt ∧ fi_m.toInt ≤ 200) (gbe_m : 0 ≤ be_m.toInt ∧ be_m.toInt ≤ 200) (grk_m : 0 ≤ rk_m.toInt ∧ rk_m.toInt ≤ 7) (grl_m : 0 ≤ rl_m.toInt ∧ rl_m.toInt ≤ 7) (grw_m : 0 ≤ rw_m.toInt ∧ rw_m.toInt ≤ 3) (gdg_m : 0 ≤ dg_m.toInt ∧ dg_m.toInt ≤ 1) (qsz : ∀ j, j < 4 → (-1) ≤ (fsz j).toInt ∧ (fsz j).toInt ≤ 24) : Met l yX12_look wsX12_look ({ frames := 2, cells := 0, slots := 0, locals := 45 } : Room) (hw_PC D G [.ref h0, .int p1, .int p2] sz (fun H => va_at D.1 vwCl (h0, .inr (11, hw_LM rm ud_m ky_m lo_m wk_m dk_m ln_m sm_m fi_m be_m rk_m rl_m rw_m cl_m dg_m)) H ∧ va_at D.1 vwCl ((rm 42), .inl (D.2.1 0, 4, .inl fsz)) H)) (hw_QR (fun v => (v = .long (-2) ∧ ((p1.toInt < 0 ∨ 3 < p1.toInt))) ∨ (v = .long (-11) ∧ ((0 ≤ p1.toInt ∧ p1.toInt ≤ 3)) ∧ (fsz p1.toNatClampNeg).toInt < 0) ∨ (v = .long (-13) ∧ ((0 ≤ p1.toInt ∧ p1.toInt ≤ 3)) ∧ 0 ≤ (fsz p1.toNatClampNeg).toInt ∧ (p2.toInt < 0 ∨ (fsz p1.toNatClampNeg).toInt < p2.toInt + 1)) ∨ (∃ (r : Int64), v = .long r ∧ ((0 ≤ p1.toInt ∧ p1.toInt ≤ 3)) ∧ 0 ≤ (fsz p1.toNatClampNeg).toInt))) 0 0 (fun _ => False) := by
  refine hw_met (cc := cX12_look) (maxL := 5) (ret := (some .long)) (plainFor_of_name (by decide)) rfl (Nat.le_of_ble_eq_true rfl) ?_
  intro p e s m args below meth c QQ ls hsz hx hb hml hr hts hown hlocks hnm hH hK hST hF hQ hl
  subst hsz
  have hS : va_S (hw_AW G [] s.heap.size) s.heap s.heap [] := va_S.rf
  obtain ⟨vm, vsz⟩ := hF
  have hl : lv_has ls 5 [(0, .ref h0), (1, .int p1), (2, .int p2)] := hl
  have u_11 : ∀ w ∈ u_ws RX12 TX12 45, w.before args s = true := fun w hw => hts w ((by decide +kernel : ∀ w ∈ u_ws RX12 TX12 45, w ∈ wsX12_look) w hw)
  have fg_99_11 : hw_FG s args m 99 11 42 := ⟨RX12, "WardWalkersModel", RX12, TX12, 45, u_11, hown, rfl, by decide, (hts (.fieldLink RX12 99 "WardWalkersModel" "sizes" "[I") (by decide +kernel)), (fun _ h9 => h9)⟩
  have fg_102_11 : hw_FG s args m 102 11 43 := ⟨RX12, "WardWalkersModel", RX12, TX12, 45, u_11, hown, rfl, by decide, (hts (.fieldLink RX12 102 "WardWalkersModel" "things" "[J") (by decide +kernel)), (fun _ h9 => h9)⟩
  refine lv_iload_n hx hb dX12_look_0 rfl (lv_at hl 1 rfl) ?_
  refine hw_cR (va_runS (As := [.int p1]) (rest := []) ⟨hx, hb, hml, hown, hts⟩ (k_X12_isRack l D G p1 _) (va_cwS 1 hts gX12_look_X12_isRack rfl rfl rfl (by decide +kernel) ⟨Nat.le_of_ble_eq_true rfl, Nat.le_of_ble_eq_true rfl⟩) (hw_pS hH hK hST hS (by decide) (fun _ h => Or.inl h) trivial) rfl rfl hl.1 rfl (lv_room (Nat.le_of_ble_eq_true rfl)) dX12_look_1 ⟨Nat.le_of_ble_eq_true rfl, Nat.le_of_ble_eq_true rfl⟩) (fun v hp => ?_)
  rcases hp with ⟨rfl, q1⟩ | ⟨rfl, q2⟩
  · refine lv_if_ne (tgt := 11) hx hb dX12_look_4 (by decide) (fun c3 => ?_) (fun c3 => ?_)
    · refine lv_aload_n hx hb dX12_look_11 rfl (lv_at hl 0 rfl) ?_
      refine hw_get hx hb fg_99_11 hK vm rfl dX12_look_12 ?_
      refine lv_iload_n hx hb dX12_look_15 rfl (lv_at hl 1 rfl) ?_
      refine hw_iald hx hb hK vsz (hw_in (by omega) (by omega)) dX12_look_16 ?_
      refine lv_topi (fun x4 e5 => ?_)
      have n7 : vp_in p1 4 := (hw_in (by omega) (by omega))
      have t6 : (-1) ≤ x4.toInt ∧ x4.toInt ≤ 24 := by rw [e5]; exact qsz _ (Nat.not_le.mp fun q => n7 (Or.inr q))
      have hsz : x4.toInt = (fsz p1.toNatClampNeg).toInt := by rw [e5]
      refine lv_if_ge (tgt := 24) hx hb dX12_look_17 (by decide) (fun c8 => ?_) (fun c8 => ?_)
      · have b9 : 0 ≤ x4.toInt := hw_ile c8
        refine lv_aload_n hx hb dX12_look_24 rfl (lv_at hl 0 rfl) ?_
        refine lv_iload_n hx hb dX12_look_25 rfl (lv_at hl 1 rfl) ?_
        refine lv_iload_n hx hb dX12_look_26 rfl (lv_at hl 2 rfl) ?_
        refine lv_iconst (v := 1) hx hb dX12_look_27 (by decide) ?_
        refine hw_cR (va_runV (As := [.int p1, .int p2, .int 1]) (rest := []) ⟨hx, hb, hml, hown, hts⟩ (k_X12_isSpan l D G h0 p1 p2 1 _ rm ud_m ky_m lo_m wk_m dk_m ln_m sm_m fi_m be_m rk_m rl_m rw_m cl_m dg_m fsz G0 Rm ⟨by first | decide | omega, by first | decide | omega⟩ ⟨by first | decide | omega, by first | decide | omega⟩ ⟨by first | decide | omega, by first | decide | omega⟩ ⟨by first | decide | omega, by first | decide | omega⟩ ⟨by first | decide | omega, by first | decide | omega⟩ ⟨by first | decide | omega, by first | decide | omega⟩ ⟨by first | decide | omega, by first | decide | omega⟩ ⟨by first | decide | omega, by first | decide | omega⟩ ⟨by first | decide | omega, by first | decide | omega⟩ ⟨by first | decide | omega, by first | decide | omega⟩ ⟨by first | decide | omega, by first | decide | omega⟩ ⟨by first | decide | omega, by first | decide | omega⟩ qsz (by first | assumption | decide | omega)) (cwV 3 hts gX12_look_X12_isSpan rfl rfl rfl (by decide +kernel) ⟨Nat.le_of_ble_eq_true rfl, Nat.le_of_ble_eq_true rfl⟩) (hw_pV (hw_rc (q := (RX12, TX12, 45)) hK vm rfl) hH hK hST hS (by decide) (fun _ h => Or.inl h) ⟨vm, vsz⟩) rfl rfl hl.1 rfl (lv_room (Nat.le_of_ble_eq_true rfl)) dX12_look_28 ⟨Nat.le_of_ble_eq_true rfl, Nat.le_of_ble_eq_true rfl⟩) (fun v hp => ?_)
        have l10 : (1 : Int32).toInt = 1 := rfl
        rcases hp with ⟨rfl, q11⟩ | ⟨rfl, q12⟩
        · refine lv_if_ne (tgt := 38) hx hb dX12_look_31 (by decide) (fun c13 => ?_) (fun c13 => ?_)
          · have hs24 := qsz p1.toNatClampNeg (hw_i4 (by omega))
            refine lv_aload_n hx hb dX12_look_38 rfl (lv_at hl 0 rfl) ?_
            refine hw_get hx hb fg_102_11 hK vm rfl dX12_look_39 ?_
            refine lv_bipush (v := 24) hx hb dX12_look_42 (by decide) ?_
            refine lv_iload_n hx hb dX12_look_44 rfl (lv_at hl 1 rfl) ?_
            refine lv_imul hx hb dX12_look_45 ?_
            refine lv_topi (fun x14 e15 => ?_)
            have t16 : x14.toInt = 24 * p1.toInt := by rw [e15]; exact hw_mul rfl rfl (by omega) (by omega)
            refine lv_iload_n hx hb dX12_look_46 rfl (lv_at hl 2 rfl) ?_
            refine lv_iadd hx hb dX12_look_47 ?_
            refine lv_topi (fun x17 e18 => ?_)
            have t19 : x17.toInt = x14.toInt + p2.toInt := by rw [e18]; exact hw_add rfl rfl (by omega) (by omega)
            obtain ⟨f20, v21⟩ := hH.a83 (hw_RM_43 Rm)
            refine hw_lald hx hb hK v21 (hw_in (by omega) (by omega)) dX12_look_48 ?_
            refine lv_topl (fun x23 e24 => ?_)
            refine lv_lstore_n (lv' := [(3, .long x23), (0, .ref h0), (1, .int p1), (2, .int p2)]) hx hb dX12_look_49 rfl hl (by decide) rfl (fun ls hl => ?_)
            refine lv_lload_n hx hb dX12_look_50 rfl (lv_at hl 0 rfl) ?_
            refine lv_lconst (v := 0) hx hb dX12_look_51 (by decide) ?_
            refine W.lcmp hx hb dX12_look_52 ?_
            refine lv_topi (fun x25 e26 => ?_)
            refine lv_if_ge (tgt := 71) hx hb dX12_look_53 (by decide) (fun c27 => ?_) (fun c27 => ?_)
            · have b28 := hw_cmpge (e26 ▸ c27)
              have b29 : 0 ≤ x23.toInt := hw_Lle b28
              refine lv_lload_n hx hb dX12_look_71 rfl (lv_at hl 0 rfl) ?_
              refine lv_ldc2 (v := 1000000000000) hx hb hown (hts (.constantLong RX12 329 (1000000000000)) (by decide +kernel)) dX12_look_72 ?_
              refine W.lcmp hx hb dX12_look_75 ?_
              refine lv_topi (fun x30 e31 => ?_)
              refine lv_if_le (tgt := 91) hx hb dX12_look_76 (by decide) (fun c32 => ?_) (fun c32 => ?_)
              · have b33 := hw_cmple (e31 ▸ c32)
                have b34 : x23.toInt ≤ 1000000000000 := hw_Lle b33
                refine lv_lload_n hx hb dX12_look_91 rfl (lv_at hl 0 rfl) ?_
                exact hw_lretR (v := x23) hx hb hr hlocks hQ (Or.inr (Or.inr (Or.inr (⟨x23, rfl, (by first | rfl | trivial | assumption | omega | (intros; first | rfl | assumption | omega | (exfalso; omega))), (by first | rfl | trivial | assumption | omega | (intros; first | rfl | assumption | omega | (exfalso; omega)))⟩)))) dX12_look_92
              · have b35 := hw_cmpnle (e31 ▸ c32)
                have b36 : 1000000000000 < x23.toInt := hw_Lnle b35
                refine lv_lload_n hx hb dX12_look_79 rfl (lv_at hl 0 rfl) ?_
                refine lv_ldc2 (v := 1000003) hx hb hown (hts (.constantLong RX12 325 (1000003)) (by decide +kernel)) dX12_look_80 ?_
                refine lv_lrem hx hb dX12_look_83 (by decide) ?_
                refine lv_topl (fun x37 e38 => ?_)
                refine lv_ldc2 (v := 2000000000000) hx hb hown (hts (.constantLong RX12 331 (2000000000000)) (by decide +kernel)) dX12_look_84 ?_
                refine lv_ladd hx hb dX12_look_87  ?_
                refine lv_topl (fun x39 e40 => ?_)
                refine lv_goto (tgt := 92) hx hb dX12_look_88 (by decide) ?_
                exact hw_lretR (v := x39) hx hb hr hlocks hQ (Or.inr (Or.inr (Or.inr (⟨x39, rfl, (by first | rfl | trivial | assumption | omega | (intros; first | rfl | assumption | omega | (exfalso; omega))), (by first | rfl | trivial | assumption | omega | (intros; first | rfl | assumption | omega | (exfalso; omega)))⟩)))) dX12_look_92
            · have b41 := hw_cmpnge (e26 ▸ c27)
              have b42 : x23.toInt < 0 := hw_Lnle b41
              refine lv_lload_n hx hb dX12_look_56 rfl (lv_at hl 0 rfl) ?_
              refine lv_lconst (v := 1) hx hb dX12_look_57 (by decide) ?_
              refine lv_ladd hx hb dX12_look_58  ?_
              refine lv_topl (fun x43 e44 => ?_)
              refine lv_lneg hx hb dX12_look_59 ?_
              refine lv_topl (fun x45 e46 => ?_)
              refine lv_ldc2 (v := 1000003) hx hb hown (hts (.constantLong RX12 325 (1000003)) (by decide +kernel)) dX12_look_60 ?_
              refine lv_lrem hx hb dX12_look_63 (by decide) ?_
              refine lv_topl (fun x47 e48 => ?_)
              refine lv_ldc2 (v := 3000000000000) hx hb hown (hts (.constantLong RX12 327 (3000000000000)) (by decide +kernel)) dX12_look_64 ?_
              refine lv_ladd hx hb dX12_look_67  ?_
              refine lv_topl (fun x49 e50 => ?_)
              refine lv_goto (tgt := 92) hx hb dX12_look_68 (by decide) ?_
              exact hw_lretR (v := x49) hx hb hr hlocks hQ (Or.inr (Or.inr (Or.inr (⟨x49, rfl, (by first | rfl | trivial | assumption | omega | (intros; first | rfl | assumption | omega | (exfalso; omega))), (by first | rfl | trivial | assumption | omega | (intros; first | rfl | assumption | omega | (exfalso; omega)))⟩)))) dX12_look_92
          · exact absurd c13 (by decide)
        · refine lv_if_ne (tgt := 38) hx hb dX12_look_31 (by decide) (fun c51 => ?_) (fun c51 => ?_)
          · exact absurd c51 (by decide)
          · refine lv_ldc2 (v := (-13)) hx hb hown (hts (.constantLong RX12 323 (-13)) (by decide +kernel)) dX12_look_34 ?_
            exact hw_lretR (v := (-13)) hx hb hr hlocks hQ (Or.inr (Or.inr (Or.inl ⟨rfl, (by first | rfl | trivial | assumption | omega | (intros; first | rfl | assumption | omega | (exfalso; omega))), (by first | rfl | trivial | assumption | omega | (intros; first | rfl | assumption | omega | (exfalso; omega))), (by first | rfl | trivial | assumption | omega | (intros; first | rfl | assumption | omega | (exfalso; omega)))⟩))) dX12_look_37
      · have b52 : x4.toInt < 0 := hw_inle c8
        refine lv_ldc2 (v := (-11)) hx hb hown (hts (.constantLong RX12 321 (-11)) (by decide +kernel)) dX12_look_20 ?_
        exact hw_lretR (v := (-11)) hx hb hr hlocks hQ (Or.inr (Or.inl ⟨rfl, (by first | rfl | trivial | assumption | omega | (intros; first | rfl | assumption | omega | (exfalso; omega))), (by first | rfl | trivial | assumption | omega | (intros; first | rfl | assumption | omega | (exfalso; omega)))⟩)) dX12_look_23
    · exact absurd c3 (by decide)
  · refine lv_if_ne (tgt := 11) hx hb dX12_look_4 (by decide) (fun c53 => ?_) (fun c53 => ?_)
    · exact absurd c53 (by decide)
    · refine lv_ldc2 (v := (-2)) hx hb hown (hts (.constantLong RX12 319 (-2)) (by decide +kernel)) dX12_look_7 ?_
      exact hw_lretR (v := (-2)) hx hb hr hlocks hQ (Or.inl ⟨rfl, (by first | rfl | trivial | assumption | omega | (intros; first | rfl | assumption | omega | (exfalso; omega)))⟩) dX12_look_10

set_option maxHeartbeats 4000000 in
set_option maxRecDepth 100000 in
theorem k_X12_copy (l : Launch) (D : hw_D) (G : Nat → Nat) (h0 : Nat) (p1 : Int32) (p2 : Int32) (p3 : Int32) (p4 : Int32) (p5 : Int32) (sz : Nat) (rm : Nat → Nat) (ud_m ky_m lo_m wk_m dk_m ln_m sm_m fi_m be_m rk_m rl_m rw_m cl_m dg_m : Int32) (fla : Nat → Int32) (fsz : Nat → Int32) (G0 : G h0 = 9) (Rm : hw_RM G rm) (gud_m : 0 ≤ ud_m.toInt ∧ ud_m.toInt ≤ 8) (gky_m : 0 ≤ ky_m.toInt ∧ ky_m.toInt ≤ 7) (glo_m : 0 ≤ lo_m.toInt ∧ lo_m.toInt ≤ 7) (gwk_m : 0 ≤ wk_m.toInt ∧ wk_m.toInt ≤ 3) (gln_m : 0 ≤ ln_m.toInt ∧ ln_m.toInt ≤ 200) (gsm_m : 0 ≤ sm_m.toInt ∧ sm_m.toInt ≤ 6) (gfi_m : 0 ≤ fi_m.toInt ∧ fi_m.toInt ≤ 200) (gbe_m : 0 ≤ be_m.toInt ∧ be_m.toInt ≤ 200) (grk_m : 0 ≤ rk_m.toInt ∧ rk_m.toInt ≤ 7) (grl_m : 0 ≤ rl_m.toInt ∧ rl_m.toInt ≤ 7) (grw_m : 0 ≤ rw_m.toInt ∧ rw_m.toInt ≤ 3) (gdg_m : 0 ≤ dg_m.toInt ∧ dg_m.toInt ≤ 1) (qsz : ∀ j, j < 4 → (-1) ≤ (fsz j).toInt ∧ (fsz j).toInt ≤ 24) : Met l yX12_copy wsX12_copy ({ frames := 2, cells := 0, slots := 0, locals := 45 } : Room) (hw_PC D G [.ref h0, .int p1, .int p2, .int p3, .int p4, .int p5] sz (fun H => va_at D.1 vwCl (h0, .inr (11, hw_LM rm ud_m ky_m lo_m wk_m dk_m ln_m sm_m fi_m be_m rk_m rl_m rw_m cl_m dg_m)) H ∧ va_at D.1 vwCl ((rm 41), .inl (D.2.1 0, 4, .inl fla)) H ∧ va_at D.1 vwCl ((rm 42), .inl (D.2.1 0, 4, .inl fsz)) H)) (hw_QM (fun v H => (v = some (.int (-2)) ∧ hw_HT D G H ∧ va_at D.1 vwCl (h0, .inr (11, hw_LM rm ud_m ky_m lo_m wk_m dk_m ln_m sm_m fi_m be_m rk_m rl_m rw_m cl_m dg_m)) H ∧ va_at D.1 vwCl ((rm 41), .inl (D.2.1 0, 4, .inl fla)) H ∧ va_at D.1 vwCl ((rm 42), .inl (D.2.1 0, 4, .inl fsz)) H ∧ ((p1.toInt < 0 ∨ 3 < p1.toInt) ∨ (p3.toInt < 0 ∨ 3 < p3.toInt))) ∨ (v = some (.int (-11)) ∧ hw_HT D G H ∧ va_at D.1 vwCl (h0, .inr (11, hw_LM rm ud_m ky_m lo_m wk_m dk_m ln_m sm_m fi_m be_m rk_m rl_m rw_m cl_m dg_m)) H ∧ va_at D.1 vwCl ((rm 41), .inl (D.2.1 0, 4, .inl fla)) H ∧ va_at D.1 vwCl ((rm 42), .inl (D.2.1 0, 4, .inl fsz)) H ∧ ((0 ≤ p1.toInt ∧ p1.toInt ≤ 3)) ∧ ((0 ≤ p3.toInt ∧ p3.toInt ≤ 3)) ∧ ((fsz p1.toNatClampNeg).toInt < 0 ∨ (fsz p3.toNatClampNeg).toInt < 0)) ∨ (v = some (.int (-15)) ∧ hw_HT D G H ∧ va_at D.1 vwCl (h0, .inr (11, hw_LM rm ud_m ky_m lo_m wk_m dk_m ln_m sm_m fi_m be_m rk_m rl_m rw_m cl_m dg_m)) H ∧ va_at D.1 vwCl ((rm 41), .inl (D.2.1 0, 4, .inl fla)) H ∧ va_at D.1 vwCl ((rm 42), .inl (D.2.1 0, 4, .inl fsz)) H ∧ ((0 ≤ p1.toInt ∧ p1.toInt ≤ 3)) ∧ ((0 ≤ p3.toInt ∧ p3.toInt ≤ 3)) ∧ 0 ≤ (fsz p1.toNatClampNeg).toInt ∧ 0 ≤ (fsz p3.toNatClampNeg).toInt ∧ (fla p1.toNatClampNeg).toInt ≠ (fla p3.toNatClampNeg).toInt) ∨ (v = some (.int (-13)) ∧ hw_HT D G H ∧ va_at D.1 vwCl (h0, .inr (11, hw_LM rm ud_m ky_m lo_m wk_m dk_m ln_m sm_m fi_m be_m rk_m rl_m rw_m cl_m dg_m)) H ∧ va_at D.1 vwCl ((rm 41), .inl (D.2.1 0, 4, .inl fla)) H ∧ va_at D.1 vwCl ((rm 42), .inl (D.2.1 0, 4, .inl fsz)) H ∧ ((0 ≤ p1.toInt ∧ p1.toInt ≤ 3)) ∧ ((0 ≤ p3.toInt ∧ p3.toInt ≤ 3)) ∧ 0 ≤ (fsz p1.toNatClampNeg).toInt ∧ 0 ≤ (fsz p3.toNatClampNeg).toInt ∧ (fla p1.toNatClampNeg).toInt = (fla p3.toNatClampNeg).toInt ∧ (p5.toInt < 0 ∨ p2.toInt < 0 ∨ p4.toInt < 0 ∨ (fsz p1.toNatClampNeg).toInt < p2.toInt + p5.toInt ∨ (fsz p3.toNatClampNeg).toInt < p4.toInt + p5.toInt)) ∨ (∃ (r : Int32), v = some (.int r) ∧ hw_HT D G H ∧ va_at D.1 vwCl (h0, .inr (11, hw_LM rm ud_m ky_m lo_m wk_m dk_m ln_m sm_m fi_m be_m rk_m rl_m rw_m cl_m dg_m)) H ∧ va_at D.1 vwCl ((rm 41), .inl (D.2.1 0, 4, .inl fla)) H ∧ va_at D.1 vwCl ((rm 42), .inl (D.2.1 0, 4, .inl fsz)) H ∧ ((0 ≤ p1.toInt ∧ p1.toInt ≤ 3)) ∧ ((0 ≤ p3.toInt ∧ p3.toInt ≤ 3)) ∧ 0 ≤ (fsz p1.toNatClampNeg).toInt ∧ 0 ≤ (fsz p3.toNatClampNeg).toInt ∧ (fla p1.toNatClampNeg).toInt = (fla p3.toNatClampNeg).toInt ∧ (0 ≤ p5.toInt ∧ 0 ≤ p2.toInt ∧ 0 ≤ p4.toInt ∧ p2.toInt + p5.toInt ≤ (fsz p1.toNatClampNeg).toInt ∧ p4.toInt + p5.toInt ≤ (fsz p3.toNatClampNeg).toInt) ∧ r = p5)) (hw_AW G [83, 84] sz)) 0 0 (hw_AW G [83, 84] sz) := by
  refine hw_met (cc := cX12_copy) (maxL := 7) (ret := (some .int)) (plainFor_of_name (by decide)) rfl (Nat.le_of_ble_eq_true rfl) ?_
  intro p e s m args below meth c QQ ls hsz hx hb hml hr hts hown hlocks hnm hH hK hST hF hQ hl
  subst hsz
  have hS : va_S (hw_AW G [83, 84] s.heap.size) s.heap s.heap [] := va_S.rf
  obtain ⟨vm, vla, vsz⟩ := hF
  have hl : lv_has ls 7 [(0, .ref h0), (1, .int p1), (2, .int p2), (3, .int p3), (4, .int p4), (5, .int p5)] := hl
  have u_11 : ∀ w ∈ u_ws RX12 TX12 45, w.before args s = true := fun w hw => hts w ((by decide +kernel : ∀ w ∈ u_ws RX12 TX12 45, w ∈ wsX12_copy) w hw)
  have fg_99_11 : hw_FG s args m 99 11 42 := ⟨RX12, "WardWalkersModel", RX12, TX12, 45, u_11, hown, rfl, by decide, (hts (.fieldLink RX12 99 "WardWalkersModel" "sizes" "[I") (by decide +kernel)), (fun _ h9 => h9)⟩
  have fg_96_11 : hw_FG s args m 96 11 41 := ⟨RX12, "WardWalkersModel", RX12, TX12, 45, u_11, hown, rfl, by decide, (hts (.fieldLink RX12 96 "WardWalkersModel" "lanes" "[I") (by decide +kernel)), (fun _ h9 => h9)⟩
  have fg_102_11 : hw_FG s args m 102 11 43 := ⟨RX12, "WardWalkersModel", RX12, TX12, 45, u_11, hown, rfl, by decide, (hts (.fieldLink RX12 102 "WardWalkersModel" "things" "[J") (by decide +kernel)), (fun _ h9 => h9)⟩
  have fg_106_11 : hw_FG s args m 106 11 44 := ⟨RX12, "WardWalkersModel", RX12, TX12, 45, u_11, hown, rfl, by decide, (hts (.fieldLink RX12 106 "WardWalkersModel" "held" "[J") (by decide +kernel)), (fun _ h9 => h9)⟩
  refine lv_iload_n hx hb dX12_copy_0 rfl (lv_at hl 1 rfl) ?_
  refine hw_cR (va_runS (As := [.int p1]) (rest := []) ⟨hx, hb, hml, hown, hts⟩ (k_X12_isRack l D G p1 _) (va_cwS 1 hts gX12_copy_X12_isRack rfl rfl rfl (by decide +kernel) ⟨Nat.le_of_ble_eq_true rfl, Nat.le_of_ble_eq_true rfl⟩) (hw_pS hH hK hST hS (by decide) (fun _ h => Or.inl h) trivial) rfl rfl hl.1 rfl (lv_room (Nat.le_of_ble_eq_true rfl)) dX12_copy_1 ⟨Nat.le_of_ble_eq_true rfl, Nat.le_of_ble_eq_true rfl⟩) (fun v hp => ?_)
  rcases hp with ⟨rfl, q1⟩ | ⟨rfl, q2⟩
  · refine lv_if_eq (tgt := 14) hx hb dX12_copy_4 (by decide) (fun c3 => ?_) (fun c3 => ?_)
    · exact absurd c3 (by decide)
    · refine lv_iload_n hx hb dX12_copy_7 rfl (lv_at hl 3 rfl) ?_
      refine hw_cR (va_runS (As := [.int p3]) (rest := []) ⟨hx, hb, hml, hown, hts⟩ (k_X12_isRack l D G p3 _) (va_cwS 1 hts gX12_copy_X12_isRack rfl rfl rfl (by decide +kernel) ⟨Nat.le_of_ble_eq_true rfl, Nat.le_of_ble_eq_true rfl⟩) (hw_pS hH hK hST hS (by decide) (fun _ h => Or.inl h) trivial) rfl rfl hl.1 rfl (lv_room (Nat.le_of_ble_eq_true rfl)) dX12_copy_8 ⟨Nat.le_of_ble_eq_true rfl, Nat.le_of_ble_eq_true rfl⟩) (fun v hp => ?_)
      rcases hp with ⟨rfl, q4⟩ | ⟨rfl, q5⟩
      · refine lv_if_ne (tgt := 17) hx hb dX12_copy_11 (by decide) (fun c6 => ?_) (fun c6 => ?_)
        · refine lv_aload_n hx hb dX12_copy_17 rfl (lv_at hl 0 rfl) ?_
          refine hw_get hx hb fg_99_11 hK vm rfl dX12_copy_18 ?_
          refine lv_iload_n hx hb dX12_copy_21 rfl (lv_at hl 1 rfl) ?_
          refine hw_iald hx hb hK vsz (hw_in (by omega) (by omega)) dX12_copy_22 ?_
          refine lv_topi (fun x7 e8 => ?_)
          have n10 : vp_in p1 4 := (hw_in (by omega) (by omega))
          have t9 : (-1) ≤ x7.toInt ∧ x7.toInt ≤ 24 := by rw [e8]; exact qsz _ (Nat.not_le.mp fun q => n10 (Or.inr q))
          have hs1 : x7.toInt = (fsz p1.toNatClampNeg).toInt := by rw [e8]
          refine lv_if_lt (tgt := 35) hx hb dX12_copy_23 (by decide) (fun c11 => ?_) (fun c11 => ?_)
          · have b12 : x7.toInt < 0 := hw_ilt c11
            refine lv_bipush (v := (-11)) hx hb dX12_copy_35 (by decide) ?_
            exact hw_iretM (v := (-11)) hx hb hr hlocks hQ hS rfl (Or.inr (Or.inl ⟨rfl, hH, vm, vla, vsz, (by first | rfl | trivial | assumption | omega | (intros; first | rfl | assumption | omega | (exfalso; omega))), (by first | rfl | trivial | assumption | omega | (intros; first | rfl | assumption | omega | (exfalso; omega))), (by first | rfl | trivial | assumption | omega | (intros; first | rfl | assumption | omega | (exfalso; omega)))⟩)) dX12_copy_37
          · have b13 : 0 ≤ x7.toInt := hw_inlt c11
            refine lv_aload_n hx hb dX12_copy_26 rfl (lv_at hl 0 rfl) ?_
            refine hw_get hx hb fg_99_11 hK vm rfl dX12_copy_27 ?_
            refine lv_iload_n hx hb dX12_copy_30 rfl (lv_at hl 3 rfl) ?_
            refine hw_iald hx hb hK vsz (hw_in (by omega) (by omega)) dX12_copy_31 ?_
            refine lv_topi (fun x14 e15 => ?_)
            have n17 : vp_in p3 4 := (hw_in (by omega) (by omega))
            have t16 : (-1) ≤ x14.toInt ∧ x14.toInt ≤ 24 := by rw [e15]; exact qsz _ (Nat.not_le.mp fun q => n17 (Or.inr q))
            have hs3 : x14.toInt = (fsz p3.toNatClampNeg).toInt := by rw [e15]
            refine lv_if_ge (tgt := 38) hx hb dX12_copy_32 (by decide) (fun c18 => ?_) (fun c18 => ?_)
            · have b19 : 0 ≤ x14.toInt := hw_ile c18
              refine lv_aload_n hx hb dX12_copy_38 rfl (lv_at hl 0 rfl) ?_
              refine hw_get hx hb fg_96_11 hK vm rfl dX12_copy_39 ?_
              refine lv_iload_n hx hb dX12_copy_42 rfl (lv_at hl 1 rfl) ?_
              refine hw_iald hx hb hK vla (hw_in (by omega) (by omega)) dX12_copy_43 ?_
              refine lv_topi (fun x20 e21 => ?_)
              have hl1 : x20.toInt = (fla p1.toNatClampNeg).toInt := by rw [e21]
              refine lv_aload_n hx hb dX12_copy_44 rfl (lv_at hl 0 rfl) ?_
              refine hw_get hx hb fg_96_11 hK vm rfl dX12_copy_45 ?_
              refine lv_iload_n hx hb dX12_copy_48 rfl (lv_at hl 3 rfl) ?_
              refine hw_iald hx hb hK vla (hw_in (by omega) (by omega)) dX12_copy_49 ?_
              refine lv_topi (fun x22 e23 => ?_)
              have hl3 : x22.toInt = (fla p3.toNatClampNeg).toInt := by rw [e23]
              refine lv_icmp_eq (tgt := 56) hx hb dX12_copy_50 (by decide) (fun c24 => ?_) (fun c24 => ?_)
              · have b25 : x20.toInt = x22.toInt := hw_ieq c24
                refine lv_aload_n hx hb dX12_copy_56 rfl (lv_at hl 0 rfl) ?_
                refine lv_iload_n hx hb dX12_copy_57 rfl (lv_at hl 1 rfl) ?_
                refine lv_iload_n hx hb dX12_copy_58 rfl (lv_at hl 2 rfl) ?_
                refine lv_iload hx hb dX12_copy_59 (lv_at hl 5 rfl) ?_
                refine hw_cR (va_runV (As := [.int p1, .int p2, .int p5]) (rest := []) ⟨hx, hb, hml, hown, hts⟩ (k_X12_isSpan l D G h0 p1 p2 p5 _ rm ud_m ky_m lo_m wk_m dk_m ln_m sm_m fi_m be_m rk_m rl_m rw_m cl_m dg_m fsz G0 Rm ⟨by first | decide | omega, by first | decide | omega⟩ ⟨by first | decide | omega, by first | decide | omega⟩ ⟨by first | decide | omega, by first | decide | omega⟩ ⟨by first | decide | omega, by first | decide | omega⟩ ⟨by first | decide | omega, by first | decide | omega⟩ ⟨by first | decide | omega, by first | decide | omega⟩ ⟨by first | decide | omega, by first | decide | omega⟩ ⟨by first | decide | omega, by first | decide | omega⟩ ⟨by first | decide | omega, by first | decide | omega⟩ ⟨by first | decide | omega, by first | decide | omega⟩ ⟨by first | decide | omega, by first | decide | omega⟩ ⟨by first | decide | omega, by first | decide | omega⟩ qsz (by first | assumption | decide | omega)) (cwV 3 hts gX12_copy_X12_isSpan rfl rfl rfl (by decide +kernel) ⟨Nat.le_of_ble_eq_true rfl, Nat.le_of_ble_eq_true rfl⟩) (hw_pV (hw_rc (q := (RX12, TX12, 45)) hK vm rfl) hH hK hST hS (by decide) (fun _ h => Or.inl h) ⟨vm, vsz⟩) rfl rfl hl.1 rfl (lv_room (Nat.le_of_ble_eq_true rfl)) dX12_copy_61 ⟨Nat.le_of_ble_eq_true rfl, Nat.le_of_ble_eq_true rfl⟩) (fun v hp => ?_)
                rcases hp with ⟨rfl, q26⟩ | ⟨rfl, q27⟩
                · refine lv_if_eq (tgt := 79) hx hb dX12_copy_64 (by decide) (fun c28 => ?_) (fun c28 => ?_)
                  · exact absurd c28 (by decide)
                  · refine lv_aload_n hx hb dX12_copy_67 rfl (lv_at hl 0 rfl) ?_
                    refine lv_iload_n hx hb dX12_copy_68 rfl (lv_at hl 3 rfl) ?_
                    refine lv_iload hx hb dX12_copy_69 (lv_at hl 4 rfl) ?_
                    refine lv_iload hx hb dX12_copy_71 (lv_at hl 5 rfl) ?_
                    refine hw_cR (va_runV (As := [.int p3, .int p4, .int p5]) (rest := []) ⟨hx, hb, hml, hown, hts⟩ (k_X12_isSpan l D G h0 p3 p4 p5 _ rm ud_m ky_m lo_m wk_m dk_m ln_m sm_m fi_m be_m rk_m rl_m rw_m cl_m dg_m fsz G0 Rm ⟨by first | decide | omega, by first | decide | omega⟩ ⟨by first | decide | omega, by first | decide | omega⟩ ⟨by first | decide | omega, by first | decide | omega⟩ ⟨by first | decide | omega, by first | decide | omega⟩ ⟨by first | decide | omega, by first | decide | omega⟩ ⟨by first | decide | omega, by first | decide | omega⟩ ⟨by first | decide | omega, by first | decide | omega⟩ ⟨by first | decide | omega, by first | decide | omega⟩ ⟨by first | decide | omega, by first | decide | omega⟩ ⟨by first | decide | omega, by first | decide | omega⟩ ⟨by first | decide | omega, by first | decide | omega⟩ ⟨by first | decide | omega, by first | decide | omega⟩ qsz (by first | assumption | decide | omega)) (cwV 3 hts gX12_copy_X12_isSpan rfl rfl rfl (by decide +kernel) ⟨Nat.le_of_ble_eq_true rfl, Nat.le_of_ble_eq_true rfl⟩) (hw_pV (hw_rc (q := (RX12, TX12, 45)) hK vm rfl) hH hK hST hS (by decide) (fun _ h => Or.inl h) ⟨vm, vsz⟩) rfl rfl hl.1 rfl (lv_room (Nat.le_of_ble_eq_true rfl)) dX12_copy_73 ⟨Nat.le_of_ble_eq_true rfl, Nat.le_of_ble_eq_true rfl⟩) (fun v hp => ?_)
                    rcases hp with ⟨rfl, q29⟩ | ⟨rfl, q30⟩
                    · refine lv_if_ne (tgt := 82) hx hb dX12_copy_76 (by decide) (fun c31 => ?_) (fun c31 => ?_)
                      · have hsa := qsz p1.toNatClampNeg (hw_i4 (by omega))
                        have hsb := qsz p3.toNatClampNeg (hw_i4 (by omega))
                        refine lv_iconst (v := 0) hx hb dX12_copy_82 (by decide) ?_
                        refine lv_istore (lv' := [(6, .int 0), (0, .ref h0), (1, .int p1), (2, .int p2), (3, .int p3), (4, .int p4), (5, .int p5)]) hx hb dX12_copy_83 hl (by decide) rfl (fun ls hl => ?_)
                        have L85 : ∀ (n34 : Nat) (y6_32 : Int32) (hm : (24 - y6_32.toInt).toNat < n34) (g33 : 0 ≤ y6_32.toInt ∧ y6_32.toInt ≤ 24) (H : Heap) (locs : List Loc) (hH : hw_HT D G H) (vm : va_at D.1 vwCl (h0, .inr (11, hw_LM rm ud_m ky_m lo_m wk_m dk_m ln_m sm_m fi_m be_m rk_m rl_m rw_m cl_m dg_m)) H) (vla : va_at D.1 vwCl ((rm 41), .inl (D.2.1 0, 4, .inl fla)) H) (vsz : va_at D.1 vwCl ((rm 42), .inl (D.2.1 0, 4, .inl fsz)) H) (hS : va_S (hw_AW G [83, 84] s.heap.size) s.heap H locs) (ls : Array Slot) (hl : lv_has ls 7 [(6, .int y6_32), (0, .ref h0), (1, .int p1), (2, .int p2), (3, .int p3), (4, .int p4), (5, .int p5)]), W p l e ({ frames := 2, cells := 0, slots := 0, locals := 45 } : Room) s m args below meth c H locs 0 0 QQ (F0 m 85 ls []) := by
                          intro n34
                          induction n34 with
                          | zero => intro y6_32 hm; exact absurd hm (Nat.not_lt_zero _)
                          | succ n34 ih85 =>
                            intro y6_32 hm g33 H locs hH vm vla vsz hS ls hl
                            refine lv_iload hx hb dX12_copy_85 (lv_at hl 0 rfl) ?_
                            refine lv_iload hx hb dX12_copy_87 (lv_at hl 6 rfl) ?_
                            refine lv_icmp_ge (tgt := 119) hx hb dX12_copy_89 (by decide) (fun c35 => ?_) (fun c35 => ?_)
                            · have b36 : p5.toInt ≤ y6_32.toInt := hw_ile c35
                              refine lv_iconst (v := 0) hx hb dX12_copy_119 (by decide) ?_
                              refine lv_istore (lv' := [(6, .int 0), (0, .ref h0), (1, .int p1), (2, .int p2), (3, .int p3), (4, .int p4), (5, .int p5)]) hx hb dX12_copy_120 hl (by decide) rfl (fun ls hl => ?_)
                              have L122 : ∀ (n39 : Nat) (y6_37 : Int32) (hm : (24 - y6_37.toInt).toNat < n39) (g38 : 0 ≤ y6_37.toInt ∧ y6_37.toInt ≤ 24) (H : Heap) (locs : List Loc) (hH : hw_HT D G H) (vm : va_at D.1 vwCl (h0, .inr (11, hw_LM rm ud_m ky_m lo_m wk_m dk_m ln_m sm_m fi_m be_m rk_m rl_m rw_m cl_m dg_m)) H) (vla : va_at D.1 vwCl ((rm 41), .inl (D.2.1 0, 4, .inl fla)) H) (vsz : va_at D.1 vwCl ((rm 42), .inl (D.2.1 0, 4, .inl fsz)) H) (hS : va_S (hw_AW G [83, 84] s.heap.size) s.heap H locs) (ls : Array Slot) (hl : lv_has ls 7 [(6, .int y6_37), (0, .ref h0), (1, .int p1), (2, .int p2), (3, .int p3), (4, .int p4), (5, .int p5)]), W p l e ({ frames := 2, cells := 0, slots := 0, locals := 45 } : Room) s m args below meth c H locs 0 0 QQ (F0 m 122 ls []) := by
                                intro n39
                                induction n39 with
                                | zero => intro y6_37 hm; exact absurd hm (Nat.not_lt_zero _)
                                | succ n39 ih122 =>
                                  intro y6_37 hm g38 H locs hH vm vla vsz hS ls hl
                                  refine lv_iload hx hb dX12_copy_122 (lv_at hl 0 rfl) ?_
                                  refine lv_iload hx hb dX12_copy_124 (lv_at hl 6 rfl) ?_
                                  refine lv_icmp_ge (tgt := 157) hx hb dX12_copy_126 (by decide) (fun c40 => ?_) (fun c40 => ?_)
                                  · have b41 : p5.toInt ≤ y6_37.toInt := hw_ile c40
                                    refine lv_iload hx hb dX12_copy_157 (lv_at hl 6 rfl) ?_
                                    exact hw_iretM (v := p5) hx hb hr hlocks hQ hS rfl (Or.inr (Or.inr (Or.inr (Or.inr (⟨p5, rfl, hH, vm, vla, vsz, (by first | rfl | trivial | assumption | omega | (intros; first | rfl | assumption | omega | (exfalso; omega))), (by first | rfl | trivial | assumption | omega | (intros; first | rfl | assumption | omega | (exfalso; omega))), (by first | rfl | trivial | assumption | omega | (intros; first | rfl | assumption | omega | (exfalso; omega))), (by first | rfl | trivial | assumption | omega | (intros; first | rfl | assumption | omega | (exfalso; omega))), (by first | rfl | trivial | assumption | omega | (intros; first | rfl | assumption | omega | (exfalso; omega))), (by first | rfl | trivial | assumption | omega | (intros; first | rfl | assumption | omega | (exfalso; omega))), (by first | rfl | trivial | assumption | omega | (intros; first | rfl | assumption | omega | (exfalso; omega)))⟩))))) dX12_copy_159
                                  · have b42 : y6_37.toInt < p5.toInt := hw_inle c40
                                    refine lv_aload_n hx hb dX12_copy_129 rfl (lv_at hl 1 rfl) ?_
                                    refine hw_get hx hb fg_102_11 hK vm rfl dX12_copy_130 ?_
                                    refine lv_bipush (v := 24) hx hb dX12_copy_133 (by decide) ?_
                                    refine lv_iload_n hx hb dX12_copy_135 rfl (lv_at hl 4 rfl) ?_
                                    refine lv_imul hx hb dX12_copy_136 ?_
                                    refine lv_topi (fun x43 e44 => ?_)
                                    have t45 : x43.toInt = 24 * p3.toInt := by rw [e44]; exact hw_mul rfl rfl (by omega) (by omega)
                                    refine lv_iload hx hb dX12_copy_137 (lv_at hl 5 rfl) ?_
                                    refine lv_iadd hx hb dX12_copy_139 ?_
                                    refine lv_topi (fun x46 e47 => ?_)
                                    have t48 : x46.toInt = x43.toInt + p4.toInt := by rw [e47]; exact hw_add rfl rfl (by omega) (by omega)
                                    refine lv_iload hx hb dX12_copy_140 (lv_at hl 0 rfl) ?_
                                    refine lv_iadd hx hb dX12_copy_142 ?_
                                    refine lv_topi (fun x49 e50 => ?_)
                                    have t51 : x49.toInt = x46.toInt + y6_37.toInt := by rw [e50]; exact hw_add rfl rfl (by omega) (by omega)
                                    refine lv_aload_n hx hb dX12_copy_143 rfl (lv_at hl 1 rfl) ?_
                                    refine hw_get hx hb fg_106_11 hK vm rfl dX12_copy_144 ?_
                                    refine lv_iload hx hb dX12_copy_147 (lv_at hl 0 rfl) ?_
                                    obtain ⟨f52, v53⟩ := hH.a84 (hw_RM_44 Rm)
                                    refine hw_lald hx hb hK v53 (hw_in (by omega) (by omega)) dX12_copy_149 ?_
                                    refine lv_topl (fun x55 e56 => ?_)
                                    obtain ⟨f57, v58⟩ := hH.a83 (hw_RM_43 Rm)
                                    refine hw_last hx hb hK hH v58 (hw_in (by omega) (by omega)) (fun _ => by rw [(hw_RM_43 Rm)]; exact ⟨_, rfl⟩) hS (hw_AWi (hw_RM_43 Rm) (by decide)) dX12_copy_150 (fun H locs hH v58 oq hz hS => ?_)
                                    have vm := va_at.kept vm (oq _ (hw_ne G0 (hw_RM_43 Rm) (by decide)))
                                    have vla := va_at.kept vla (oq _ (hw_ne (hw_RM_41 Rm) (hw_RM_43 Rm) (by decide)))
                                    have vsz := va_at.kept vsz (oq _ (hw_ne (hw_RM_42 Rm) (hw_RM_43 Rm) (by decide)))
                                    obtain ⟨x60, e61⟩ : ∃ y : Int32, y = y6_37 + 1 := ⟨_, rfl⟩
                                    refine lv_iinc (v := x60) (lv' := [(6, .int x60), (0, .ref h0), (1, .int p1), (2, .int p2), (3, .int p3), (4, .int p4), (5, .int p5)]) hx hb dX12_copy_151 hl (k := 0) rfl (by rw [e61]; rfl) (by decide) rfl (fun ls hl => ?_)
                                    have t62 : x60.toInt = y6_37.toInt + 1 := by rw [e61]; exact hw_add rfl rfl (by omega) (by omega)
                                    refine lv_goto (tgt := 122) hx hb dX12_copy_154 (by decide) ?_
                                    exact ih122 x60 (by first | omega | omega) ⟨by first | decide | omega, by first | decide | omega⟩ _ _ hH vm vla vsz hS _ (lv_sub hl [0, 1, 2, 3, 4, 5, 6] rfl)
                              exact L122 _ 0 (Nat.lt_succ_self _) ⟨by first | decide | omega, by first | decide | omega⟩ _ _ hH vm vla vsz hS _ (lv_sub hl [0, 1, 2, 3, 4, 5, 6] rfl)
                            · have b63 : y6_32.toInt < p5.toInt := hw_inle c35
                              refine lv_aload_n hx hb dX12_copy_92 rfl (lv_at hl 1 rfl) ?_
                              refine hw_get hx hb fg_106_11 hK vm rfl dX12_copy_93 ?_
                              refine lv_iload hx hb dX12_copy_96 (lv_at hl 0 rfl) ?_
                              refine lv_aload_n hx hb dX12_copy_98 rfl (lv_at hl 1 rfl) ?_
                              refine hw_get hx hb fg_102_11 hK vm rfl dX12_copy_99 ?_
                              refine lv_bipush (v := 24) hx hb dX12_copy_102 (by decide) ?_
                              refine lv_iload_n hx hb dX12_copy_104 rfl (lv_at hl 2 rfl) ?_
                              refine lv_imul hx hb dX12_copy_105 ?_
                              refine lv_topi (fun x64 e65 => ?_)
                              have t66 : x64.toInt = 24 * p1.toInt := by rw [e65]; exact hw_mul rfl rfl (by omega) (by omega)
                              refine lv_iload_n hx hb dX12_copy_106 rfl (lv_at hl 3 rfl) ?_
                              refine lv_iadd hx hb dX12_copy_107 ?_
                              refine lv_topi (fun x67 e68 => ?_)
                              have t69 : x67.toInt = x64.toInt + p2.toInt := by rw [e68]; exact hw_add rfl rfl (by omega) (by omega)
                              refine lv_iload hx hb dX12_copy_108 (lv_at hl 0 rfl) ?_
                              refine lv_iadd hx hb dX12_copy_110 ?_
                              refine lv_topi (fun x70 e71 => ?_)
                              have t72 : x70.toInt = x67.toInt + y6_32.toInt := by rw [e71]; exact hw_add rfl rfl (by omega) (by omega)
                              obtain ⟨f73, v74⟩ := hH.a83 (hw_RM_43 Rm)
                              refine hw_lald hx hb hK v74 (hw_in (by omega) (by omega)) dX12_copy_111 ?_
                              refine lv_topl (fun x76 e77 => ?_)
                              obtain ⟨f78, v79⟩ := hH.a84 (hw_RM_44 Rm)
                              refine hw_last hx hb hK hH v79 (hw_in (by omega) (by omega)) (fun _ => by rw [(hw_RM_44 Rm)]; exact ⟨_, rfl⟩) hS (hw_AWi (hw_RM_44 Rm) (by decide)) dX12_copy_112 (fun H locs hH v79 oq hz hS => ?_)
                              have vm := va_at.kept vm (oq _ (hw_ne G0 (hw_RM_44 Rm) (by decide)))
                              have vla := va_at.kept vla (oq _ (hw_ne (hw_RM_41 Rm) (hw_RM_44 Rm) (by decide)))
                              have vsz := va_at.kept vsz (oq _ (hw_ne (hw_RM_42 Rm) (hw_RM_44 Rm) (by decide)))
                              obtain ⟨x81, e82⟩ : ∃ y : Int32, y = y6_32 + 1 := ⟨_, rfl⟩
                              refine lv_iinc (v := x81) (lv' := [(6, .int x81), (0, .ref h0), (1, .int p1), (2, .int p2), (3, .int p3), (4, .int p4), (5, .int p5)]) hx hb dX12_copy_113 hl (k := 0) rfl (by rw [e82]; rfl) (by decide) rfl (fun ls hl => ?_)
                              have t83 : x81.toInt = y6_32.toInt + 1 := by rw [e82]; exact hw_add rfl rfl (by omega) (by omega)
                              refine lv_goto (tgt := 85) hx hb dX12_copy_116 (by decide) ?_
                              exact ih85 x81 (by first | omega | omega) ⟨by first | decide | omega, by first | decide | omega⟩ _ _ hH vm vla vsz hS _ (lv_sub hl [0, 1, 2, 3, 4, 5, 6] rfl)
                        exact L85 _ 0 (Nat.lt_succ_self _) ⟨by first | decide | omega, by first | decide | omega⟩ _ _ hH vm vla vsz hS _ (lv_sub hl [0, 1, 2, 3, 4, 5, 6] rfl)
                      · exact absurd c31 (by decide)
                    · refine lv_if_ne (tgt := 82) hx hb dX12_copy_76 (by decide) (fun c84 => ?_) (fun c84 => ?_)
                      · exact absurd c84 (by decide)
                      · refine lv_bipush (v := (-13)) hx hb dX12_copy_79 (by decide) ?_
                        exact hw_iretM (v := (-13)) hx hb hr hlocks hQ hS rfl (Or.inr (Or.inr (Or.inr (Or.inl ⟨rfl, hH, vm, vla, vsz, (by first | rfl | trivial | assumption | omega | (intros; first | rfl | assumption | omega | (exfalso; omega))), (by first | rfl | trivial | assumption | omega | (intros; first | rfl | assumption | omega | (exfalso; omega))), (by first | rfl | trivial | assumption | omega | (intros; first | rfl | assumption | omega | (exfalso; omega))), (by first | rfl | trivial | assumption | omega | (intros; first | rfl | assumption | omega | (exfalso; omega))), (by first | rfl | trivial | assumption | omega | (intros; first | rfl | assumption | omega | (exfalso; omega))), (by first | rfl | trivial | assumption | omega | (intros; first | rfl | assumption | omega | (exfalso; omega)))⟩)))) dX12_copy_81
                · refine lv_if_eq (tgt := 79) hx hb dX12_copy_64 (by decide) (fun c85 => ?_) (fun c85 => ?_)
                  · refine lv_bipush (v := (-13)) hx hb dX12_copy_79 (by decide) ?_
                    exact hw_iretM (v := (-13)) hx hb hr hlocks hQ hS rfl (Or.inr (Or.inr (Or.inr (Or.inl ⟨rfl, hH, vm, vla, vsz, (by first | rfl | trivial | assumption | omega | (intros; first | rfl | assumption | omega | (exfalso; omega))), (by first | rfl | trivial | assumption | omega | (intros; first | rfl | assumption | omega | (exfalso; omega))), (by first | rfl | trivial | assumption | omega | (intros; first | rfl | assumption | omega | (exfalso; omega))), (by first | rfl | trivial | assumption | omega | (intros; first | rfl | assumption | omega | (exfalso; omega))), (by first | rfl | trivial | assumption | omega | (intros; first | rfl | assumption | omega | (exfalso; omega))), (by first | rfl | trivial | assumption | omega | (intros; first | rfl | assumption | omega | (exfalso; omega)))⟩)))) dX12_copy_81
                  · exact absurd c85 (by decide)
              · have b86 : x20.toInt ≠ x22.toInt := hw_ine c24
                refine lv_bipush (v := (-15)) hx hb dX12_copy_53 (by decide) ?_
                exact hw_iretM (v := (-15)) hx hb hr hlocks hQ hS rfl (Or.inr (Or.inr (Or.inl ⟨rfl, hH, vm, vla, vsz, (by first | rfl | trivial | assumption | omega | (intros; first | rfl | assumption | omega | (exfalso; omega))), (by first | rfl | trivial | assumption | omega | (intros; first | rfl | assumption | omega | (exfalso; omega))), (by first | rfl | trivial | assumption | omega | (intros; first | rfl | assumption | omega | (exfalso; omega))), (by first | rfl | trivial | assumption | omega | (intros; first | rfl | assumption | omega | (exfalso; omega))), (by first | rfl | trivial | assumption | omega | (intros; first | rfl | assumption | omega | (exfalso; omega)))⟩))) dX12_copy_55
            · have b87 : x14.toInt < 0 := hw_inle c18
              refine lv_bipush (v := (-11)) hx hb dX12_copy_35 (by decide) ?_
              exact hw_iretM (v := (-11)) hx hb hr hlocks hQ hS rfl (Or.inr (Or.inl ⟨rfl, hH, vm, vla, vsz, (by first | rfl | trivial | assumption | omega | (intros; first | rfl | assumption | omega | (exfalso; omega))), (by first | rfl | trivial | assumption | omega | (intros; first | rfl | assumption | omega | (exfalso; omega))), (by first | rfl | trivial | assumption | omega | (intros; first | rfl | assumption | omega | (exfalso; omega)))⟩)) dX12_copy_37
        · exact absurd c6 (by decide)
      · refine lv_if_ne (tgt := 17) hx hb dX12_copy_11 (by decide) (fun c88 => ?_) (fun c88 => ?_)
        · exact absurd c88 (by decide)
        · refine lv_bipush (v := (-2)) hx hb dX12_copy_14 (by decide) ?_
          exact hw_iretM (v := (-2)) hx hb hr hlocks hQ hS rfl (Or.inl ⟨rfl, hH, vm, vla, vsz, (by first | rfl | trivial | assumption | omega | (intros; first | rfl | assumption | omega | (exfalso; omega)))⟩) dX12_copy_16
  · refine lv_if_eq (tgt := 14) hx hb dX12_copy_4 (by decide) (fun c89 => ?_) (fun c89 => ?_)
    · refine lv_bipush (v := (-2)) hx hb dX12_copy_14 (by decide) ?_
      exact hw_iretM (v := (-2)) hx hb hr hlocks hQ hS rfl (Or.inl ⟨rfl, hH, vm, vla, vsz, (by first | rfl | trivial | assumption | omega | (intros; first | rfl | assumption | omega | (exfalso; omega)))⟩) dX12_copy_16
    · exact absurd c89 (by decide)

set_option maxHeartbeats 4000000 in
set_option maxRecDepth 100000 in
theorem k_X12_drop (l : Launch) (D : hw_D) (G : Nat → Nat) (h0 : Nat) (p1 : Int32) (sz : Nat) (rm : Nat → Nat) (ud_m ky_m lo_m wk_m dk_m ln_m sm_m fi_m be_m rk_m rl_m rw_m cl_m dg_m : Int32) (fsz : Nat → Int32) (G0 : G h0 = 9) (Rm : hw_RM G rm) (gud_m : 0 ≤ ud_m.toInt ∧ ud_m.toInt ≤ 8) (gky_m : 0 ≤ ky_m.toInt ∧ ky_m.toInt ≤ 7) (glo_m : 0 ≤ lo_m.toInt ∧ lo_m.toInt ≤ 7) (gwk_m : 0 ≤ wk_m.toInt ∧ wk_m.toInt ≤ 3) (gln_m : 0 ≤ ln_m.toInt ∧ ln_m.toInt ≤ 200) (gsm_m : 0 ≤ sm_m.toInt ∧ sm_m.toInt ≤ 6) (gfi_m : 0 ≤ fi_m.toInt ∧ fi_m.toInt ≤ 200) (gbe_m : 0 ≤ be_m.toInt ∧ be_m.toInt ≤ 200) (grk_m : 0 ≤ rk_m.toInt ∧ rk_m.toInt ≤ 7) (grl_m : 0 ≤ rl_m.toInt ∧ rl_m.toInt ≤ 7) (grw_m : 0 ≤ rw_m.toInt ∧ rw_m.toInt ≤ 3) (gdg_m : 0 ≤ dg_m.toInt ∧ dg_m.toInt ≤ 1) (qsz : ∀ j, j < 4 → (-1) ≤ (fsz j).toInt ∧ (fsz j).toInt ≤ 24) : Met l yX12_drop wsX12_drop ({ frames := 2, cells := 0, slots := 0, locals := 45 } : Room) (hw_PC D G [.ref h0, .int p1] sz (fun H => va_at D.1 vwCl (h0, .inr (11, hw_LM rm ud_m ky_m lo_m wk_m dk_m ln_m sm_m fi_m be_m rk_m rl_m rw_m cl_m dg_m)) H ∧ va_at D.1 vwCl ((rm 42), .inl (D.2.1 0, 4, .inl fsz)) H)) (hw_QM (fun v H => (∃ (fsz2 : Nat → Int32), v = some (.int (-2)) ∧ hw_HT D G H ∧ va_at D.1 vwCl (h0, .inr (11, hw_LM rm ud_m ky_m lo_m wk_m dk_m ln_m sm_m fi_m be_m rk_m rl_m rw_m cl_m dg_m)) H ∧ va_at D.1 vwCl ((rm 42), .inl (D.2.1 0, 4, .inl fsz2)) H ∧ ((p1.toInt < 0 ∨ 3 < p1.toInt)) ∧ fsz2 = fsz) ∨ (∃ (fsz2 : Nat → Int32), v = some (.int (-11)) ∧ hw_HT D G H ∧ va_at D.1 vwCl (h0, .inr (11, hw_LM rm ud_m ky_m lo_m wk_m dk_m ln_m sm_m fi_m be_m rk_m rl_m rw_m cl_m dg_m)) H ∧ va_at D.1 vwCl ((rm 42), .inl (D.2.1 0, 4, .inl fsz2)) H ∧ ((0 ≤ p1.toInt ∧ p1.toInt ≤ 3)) ∧ (fsz p1.toNatClampNeg).toInt < 0 ∧ fsz2 = fsz) ∨ (∃ (r : Int32) (fsz2 : Nat → Int32), v = some (.int r) ∧ hw_HT D G H ∧ va_at D.1 vwCl (h0, .inr (11, hw_LM rm ud_m ky_m lo_m wk_m dk_m ln_m sm_m fi_m be_m rk_m rl_m rw_m cl_m dg_m)) H ∧ va_at D.1 vwCl ((rm 42), .inl (D.2.1 0, 4, .inl fsz2)) H ∧ ((0 ≤ p1.toInt ∧ p1.toInt ≤ 3)) ∧ 0 ≤ (fsz p1.toNatClampNeg).toInt ∧ r = fsz p1.toNatClampNeg ∧ fsz2 = upd fsz p1.toNatClampNeg (-1))) (hw_AW G [82] sz)) 0 0 (hw_AW G [82] sz) := by
  refine hw_met (cc := cX12_drop) (maxL := 3) (ret := (some .int)) (plainFor_of_name (by decide)) rfl (Nat.le_of_ble_eq_true rfl) ?_
  intro p e s m args below meth c QQ ls hsz hx hb hml hr hts hown hlocks hnm hH hK hST hF hQ hl
  subst hsz
  have hS : va_S (hw_AW G [82] s.heap.size) s.heap s.heap [] := va_S.rf
  obtain ⟨vm, vsz⟩ := hF
  have hl : lv_has ls 3 [(0, .ref h0), (1, .int p1)] := hl
  have u_11 : ∀ w ∈ u_ws RX12 TX12 45, w.before args s = true := fun w hw => hts w ((by decide +kernel : ∀ w ∈ u_ws RX12 TX12 45, w ∈ wsX12_drop) w hw)
  have fg_99_11 : hw_FG s args m 99 11 42 := ⟨RX12, "WardWalkersModel", RX12, TX12, 45, u_11, hown, rfl, by decide, (hts (.fieldLink RX12 99 "WardWalkersModel" "sizes" "[I") (by decide +kernel)), (fun _ h9 => h9)⟩
  refine lv_iload_n hx hb dX12_drop_0 rfl (lv_at hl 1 rfl) ?_
  refine hw_cR (va_runS (As := [.int p1]) (rest := []) ⟨hx, hb, hml, hown, hts⟩ (k_X12_isRack l D G p1 _) (va_cwS 1 hts gX12_drop_X12_isRack rfl rfl rfl (by decide +kernel) ⟨Nat.le_of_ble_eq_true rfl, Nat.le_of_ble_eq_true rfl⟩) (hw_pS hH hK hST hS (by decide) (fun _ h => Or.inl h) trivial) rfl rfl hl.1 rfl (lv_room (Nat.le_of_ble_eq_true rfl)) dX12_drop_1 ⟨Nat.le_of_ble_eq_true rfl, Nat.le_of_ble_eq_true rfl⟩) (fun v hp => ?_)
  rcases hp with ⟨rfl, q1⟩ | ⟨rfl, q2⟩
  · refine lv_if_ne (tgt := 10) hx hb dX12_drop_4 (by decide) (fun c3 => ?_) (fun c3 => ?_)
    · refine lv_aload_n hx hb dX12_drop_10 rfl (lv_at hl 0 rfl) ?_
      refine hw_get hx hb fg_99_11 hK vm rfl dX12_drop_11 ?_
      refine lv_iload_n hx hb dX12_drop_14 rfl (lv_at hl 1 rfl) ?_
      refine hw_iald hx hb hK vsz (hw_in (by omega) (by omega)) dX12_drop_15 ?_
      refine lv_topi (fun x4 e5 => ?_)
      have n7 : vp_in p1 4 := (hw_in (by omega) (by omega))
      have t6 : (-1) ≤ x4.toInt ∧ x4.toInt ≤ 24 := by rw [e5]; exact qsz _ (Nat.not_le.mp fun q => n7 (Or.inr q))
      have hs1 : x4.toInt = (fsz p1.toNatClampNeg).toInt := by rw [e5]
      refine lv_if_ge (tgt := 22) hx hb dX12_drop_16 (by decide) (fun c8 => ?_) (fun c8 => ?_)
      · have b9 : 0 ≤ x4.toInt := hw_ile c8
        refine lv_aload_n hx hb dX12_drop_22 rfl (lv_at hl 0 rfl) ?_
        refine hw_get hx hb fg_99_11 hK vm rfl dX12_drop_23 ?_
        refine lv_iload_n hx hb dX12_drop_26 rfl (lv_at hl 1 rfl) ?_
        refine hw_iald hx hb hK vsz (hw_in (by omega) (by omega)) dX12_drop_27 ?_
        refine lv_topi (fun x10 e11 => ?_)
        have t12 : x10.toInt = x4.toInt := by rw [e11, e5]
        have n14 : vp_in p1 4 := (hw_in (by omega) (by omega))
        have t13 : (-1) ≤ x10.toInt ∧ x10.toInt ≤ 24 := by rw [e11]; exact qsz _ (Nat.not_le.mp fun q => n14 (Or.inr q))
        refine lv_istore_n (lv' := [(2, .int x10), (0, .ref h0), (1, .int p1)]) hx hb dX12_drop_28 rfl hl (by decide) rfl (fun ls hl => ?_)
        refine lv_aload_n hx hb dX12_drop_29 rfl (lv_at hl 1 rfl) ?_
        refine hw_get hx hb fg_99_11 hK vm rfl dX12_drop_30 ?_
        refine lv_iload_n hx hb dX12_drop_33 rfl (lv_at hl 2 rfl) ?_
        refine lv_iconst (v := (-1)) hx hb dX12_drop_34 (by decide) ?_
        refine hw_iast hx hb hK hH vsz (hw_in (by omega) (by omega)) (fun _ => by rw [(hw_RM_42 Rm)]; refine ⟨_, rfl, fun j hj => ?_⟩; unfold upd; split; exact ⟨by first | decide | omega, by first | decide | omega⟩; exact qsz j hj) hS (hw_AWi (hw_RM_42 Rm) (by decide)) dX12_drop_35 (fun H locs hH vsz oq hz hS => ?_)
        have vm := va_at.kept vm (oq _ (hw_ne G0 (hw_RM_42 Rm) (by decide)))
        obtain ⟨f15, e16⟩ : ∃ z, z = upd fsz p1.toNatClampNeg (-1) := ⟨_, rfl⟩
        rw [← e16] at vsz
        have q17 : ∀ j, j < 4 → (-1) ≤ (f15 j).toInt ∧ (f15 j).toInt ≤ 24 := by
          intro j hj; rw [e16]; unfold upd; split
          · exact ⟨by first | decide | omega, by first | decide | omega⟩
          · exact qsz j hj
        refine lv_iload_n hx hb dX12_drop_36 rfl (lv_at hl 0 rfl) ?_
        exact hw_iretM (v := x10) hx hb hr hlocks hQ hS rfl (Or.inr (Or.inr (⟨x10, f15, rfl, hH, vm, vsz, (by first | rfl | trivial | assumption | omega | (intros; first | rfl | assumption | omega | (exfalso; omega))), (by first | rfl | trivial | assumption | omega | (intros; first | rfl | assumption | omega | (exfalso; omega))), (by exact e11), (by exact e16)⟩))) dX12_drop_37
      · have b18 : x4.toInt < 0 := hw_inle c8
        refine lv_bipush (v := (-11)) hx hb dX12_drop_19 (by decide) ?_
        exact hw_iretM (v := (-11)) hx hb hr hlocks hQ hS rfl (Or.inr (Or.inl ⟨fsz, rfl, hH, vm, vsz, (by first | rfl | trivial | assumption | omega | (intros; first | rfl | assumption | omega | (exfalso; omega))), (by first | rfl | trivial | assumption | omega | (intros; first | rfl | assumption | omega | (exfalso; omega))), (by first | rfl | trivial | assumption | omega | (intros; first | rfl | assumption | omega | (exfalso; omega)))⟩)) dX12_drop_21
    · exact absurd c3 (by decide)
  · refine lv_if_ne (tgt := 10) hx hb dX12_drop_4 (by decide) (fun c19 => ?_) (fun c19 => ?_)
    · exact absurd c19 (by decide)
    · refine lv_bipush (v := (-2)) hx hb dX12_drop_7 (by decide) ?_
      exact hw_iretM (v := (-2)) hx hb hr hlocks hQ hS rfl (Or.inl ⟨fsz, rfl, hH, vm, vsz, (by first | rfl | trivial | assumption | omega | (intros; first | rfl | assumption | omega | (exfalso; omega))), (by first | rfl | trivial | assumption | omega | (intros; first | rfl | assumption | omega | (exfalso; omega)))⟩) dX12_drop_9

set_option maxHeartbeats 4000000 in
set_option maxRecDepth 100000 in
theorem k_X12_share (l : Launch) (D : hw_D) (G : Nat → Nat) (h0 : Nat) (p1 : Int32) (p2 : Int32) (sz : Nat) (rm : Nat → Nat) (ud_m ky_m lo_m wk_m dk_m ln_m sm_m fi_m be_m rk_m rl_m rw_m cl_m dg_m : Int32) (fla : Nat → Int32) (fsz : Nat → Int32) (G0 : G h0 = 9) (Rm : hw_RM G rm) (gud_m : 0 ≤ ud_m.toInt ∧ ud_m.toInt ≤ 8) (gky_m : 0 ≤ ky_m.toInt ∧ ky_m.toInt ≤ 7) (glo_m : 0 ≤ lo_m.toInt ∧ lo_m.toInt ≤ 7) (gwk_m : 0 ≤ wk_m.toInt ∧ wk_m.toInt ≤ 3) (gln_m : 0 ≤ ln_m.toInt ∧ ln_m.toInt ≤ 200) (gsm_m : 0 ≤ sm_m.toInt ∧ sm_m.toInt ≤ 6) (gfi_m : 0 ≤ fi_m.toInt ∧ fi_m.toInt ≤ 200) (gbe_m : 0 ≤ be_m.toInt ∧ be_m.toInt ≤ 200) (grk_m : 0 ≤ rk_m.toInt ∧ rk_m.toInt ≤ 7) (grl_m : 0 ≤ rl_m.toInt ∧ rl_m.toInt ≤ 7) (grw_m : 0 ≤ rw_m.toInt ∧ rw_m.toInt ≤ 3) (gdg_m : 0 ≤ dg_m.toInt ∧ dg_m.toInt ≤ 1) (qsz : ∀ j, j < 4 → (-1) ≤ (fsz j).toInt ∧ (fsz j).toInt ≤ 24) : Met l yX12_share wsX12_share ({ frames := 2, cells := 0, slots := 0, locals := 45 } : Room) (hw_PC D G [.ref h0, .int p1, .int p2] sz (fun H => va_at D.1 vwCl (h0, .inr (11, hw_LM rm ud_m ky_m lo_m wk_m dk_m ln_m sm_m fi_m be_m rk_m rl_m rw_m cl_m dg_m)) H ∧ va_at D.1 vwCl ((rm 41), .inl (D.2.1 0, 4, .inl fla)) H ∧ va_at D.1 vwCl ((rm 42), .inl (D.2.1 0, 4, .inl fsz)) H)) (hw_QR (fun v => (v = .long (-2) ∧ ((p1.toInt < 0 ∨ 3 < p1.toInt))) ∨ (v = .long (-3) ∧ ((0 ≤ p1.toInt ∧ p1.toInt ≤ 3)) ∧ (p2.toInt < 0 ∨ 1 < p2.toInt)) ∨ (v = .long (-11) ∧ ((0 ≤ p1.toInt ∧ p1.toInt ≤ 3)) ∧ (0 ≤ p2.toInt ∧ p2.toInt ≤ 1) ∧ (fsz p1.toNatClampNeg).toInt < 0) ∨ (v = .long (-12) ∧ ((0 ≤ p1.toInt ∧ p1.toInt ≤ 3)) ∧ (0 ≤ p2.toInt ∧ p2.toInt ≤ 1) ∧ 0 ≤ (fsz p1.toNatClampNeg).toInt ∧ (fla p1.toNatClampNeg).toInt ≠ 2) ∨ (v = .long (-16) ∧ ((0 ≤ p1.toInt ∧ p1.toInt ≤ 3)) ∧ (0 ≤ p2.toInt ∧ p2.toInt ≤ 1) ∧ (fla p1.toNatClampNeg).toInt = 2 ∧ (fsz p1.toNatClampNeg).toInt = 0) ∨ (∃ (r : Int64), v = .long r ∧ ((0 ≤ p1.toInt ∧ p1.toInt ≤ 3)) ∧ (0 ≤ p2.toInt ∧ p2.toInt ≤ 1) ∧ (fla p1.toNatClampNeg).toInt = 2 ∧ 0 < (fsz p1.toNatClampNeg).toInt))) 0 0 (fun _ => False) := by
  refine hw_met (cc := cX12_share) (maxL := 12) (ret := (some .long)) (plainFor_of_name (by decide)) rfl (Nat.le_of_ble_eq_true rfl) ?_
  intro p e s m args below meth c QQ ls hsz hx hb hml hr hts hown hlocks hnm hH hK hST hF hQ hl
  subst hsz
  have hS : va_S (hw_AW G [] s.heap.size) s.heap s.heap [] := va_S.rf
  obtain ⟨vm, vla, vsz⟩ := hF
  have hl : lv_has ls 12 [(0, .ref h0), (1, .int p1), (2, .int p2)] := hl
  have u_11 : ∀ w ∈ u_ws RX12 TX12 45, w.before args s = true := fun w hw => hts w ((by decide +kernel : ∀ w ∈ u_ws RX12 TX12 45, w ∈ wsX12_share) w hw)
  have fg_99_11 : hw_FG s args m 99 11 42 := ⟨RX12, "WardWalkersModel", RX12, TX12, 45, u_11, hown, rfl, by decide, (hts (.fieldLink RX12 99 "WardWalkersModel" "sizes" "[I") (by decide +kernel)), (fun _ h9 => h9)⟩
  have fg_102_11 : hw_FG s args m 102 11 43 := ⟨RX12, "WardWalkersModel", RX12, TX12, 45, u_11, hown, rfl, by decide, (hts (.fieldLink RX12 102 "WardWalkersModel" "things" "[J") (by decide +kernel)), (fun _ h9 => h9)⟩
  refine lv_iload_n hx hb dX12_share_0 rfl (lv_at hl 1 rfl) ?_
  refine hw_cR (va_runS (As := [.int p1]) (rest := []) ⟨hx, hb, hml, hown, hts⟩ (k_X12_isRack l D G p1 _) (va_cwS 1 hts gX12_share_X12_isRack rfl rfl rfl (by decide +kernel) ⟨Nat.le_of_ble_eq_true rfl, Nat.le_of_ble_eq_true rfl⟩) (hw_pS hH hK hST hS (by decide) (fun _ h => Or.inl h) trivial) rfl rfl hl.1 rfl (lv_room (Nat.le_of_ble_eq_true rfl)) dX12_share_1 ⟨Nat.le_of_ble_eq_true rfl, Nat.le_of_ble_eq_true rfl⟩) (fun v hp => ?_)
  rcases hp with ⟨rfl, q1⟩ | ⟨rfl, q2⟩
  · refine lv_if_ne (tgt := 11) hx hb dX12_share_4 (by decide) (fun c3 => ?_) (fun c3 => ?_)
    · refine lv_iload_n hx hb dX12_share_11 rfl (lv_at hl 2 rfl) ?_
      refine lv_i2l hx hb dX12_share_12 rfl ?_
      refine lv_topl (fun x4 e5 => ?_)
      have t6 : x4.toInt = p2.toInt := by rw [e5]; exact hw_i2l _
      have rg7 := hw_rng p2
      refine lv_lconst (v := 0) hx hb dX12_share_13 (by decide) ?_
      refine lv_lconst (v := 1) hx hb dX12_share_14 (by decide) ?_
      refine hw_cR (va_runS (As := [.long x4, .long 0, .long 1]) (rest := []) ⟨hx, hb, hml, hown, hts⟩ (k_X12_in l D G x4 0 1 _) (va_cwS 3 hts gX12_share_X12_in rfl rfl rfl (by decide +kernel) ⟨Nat.le_of_ble_eq_true rfl, Nat.le_of_ble_eq_true rfl⟩) (hw_pS hH hK hST hS (by decide) (fun _ h => Or.inl h) trivial) rfl rfl hl.1 rfl (lv_room (Nat.le_of_ble_eq_true rfl)) dX12_share_15 ⟨Nat.le_of_ble_eq_true rfl, Nat.le_of_ble_eq_true rfl⟩) (fun v hp => ?_)
      have l8 : (0 : Int64).toInt = 0 := by decide
      have l9 : (1 : Int64).toInt = 1 := by decide
      rcases hp with ⟨rfl, q10⟩ | ⟨rfl, q11⟩
      · refine lv_if_ne (tgt := 25) hx hb dX12_share_18 (by decide) (fun c12 => ?_) (fun c12 => ?_)
        · refine lv_aload_n hx hb dX12_share_25 rfl (lv_at hl 0 rfl) ?_
          refine lv_iload_n hx hb dX12_share_26 rfl (lv_at hl 1 rfl) ?_
          refine lv_iconst (v := 2) hx hb dX12_share_27 (by decide) ?_
          refine hw_cR (va_runV (As := [.int p1, .int 2]) (rest := []) ⟨hx, hb, hml, hown, hts⟩ (k_X12_noRack l D G h0 p1 2 _ rm ud_m ky_m lo_m wk_m dk_m ln_m sm_m fi_m be_m rk_m rl_m rw_m cl_m dg_m fla fsz G0 Rm ⟨by first | decide | omega, by first | decide | omega⟩ ⟨by first | decide | omega, by first | decide | omega⟩ ⟨by first | decide | omega, by first | decide | omega⟩ ⟨by first | decide | omega, by first | decide | omega⟩ ⟨by first | decide | omega, by first | decide | omega⟩ ⟨by first | decide | omega, by first | decide | omega⟩ ⟨by first | decide | omega, by first | decide | omega⟩ ⟨by first | decide | omega, by first | decide | omega⟩ ⟨by first | decide | omega, by first | decide | omega⟩ ⟨by first | decide | omega, by first | decide | omega⟩ ⟨by first | decide | omega, by first | decide | omega⟩ ⟨by first | decide | omega, by first | decide | omega⟩ qsz (by first | assumption | decide | omega)) (cwV 2 hts gX12_share_X12_noRack rfl rfl rfl (by decide +kernel) ⟨Nat.le_of_ble_eq_true rfl, Nat.le_of_ble_eq_true rfl⟩) (hw_pV (hw_rc (q := (RX12, TX12, 45)) hK vm rfl) hH hK hST hS (by decide) (fun _ h => Or.inl h) ⟨vm, vla, vsz⟩) rfl rfl hl.1 rfl (lv_room (Nat.le_of_ble_eq_true rfl)) dX12_share_28 ⟨Nat.le_of_ble_eq_true rfl, Nat.le_of_ble_eq_true rfl⟩) (fun v hp => ?_)
          have l13 : (2 : Int32).toInt = 2 := rfl
          rcases hp with ⟨rfl, q14⟩ | ⟨rfl, q15, q16⟩ | ⟨rfl, q17, q18⟩
          · refine lv_istore_n (lv' := [(3, .int (-11)), (0, .ref h0), (1, .int p1), (2, .int p2)]) hx hb dX12_share_31 rfl hl (by decide) rfl (fun ls hl => ?_)
            refine lv_iload_n hx hb dX12_share_32 rfl (lv_at hl 0 rfl) ?_
            refine lv_if_eq (tgt := 39) hx hb dX12_share_33 (by decide) (fun c19 => ?_) (fun c19 => ?_)
            · exact absurd c19 (by decide)
            · refine lv_iload_n hx hb dX12_share_36 rfl (lv_at hl 0 rfl) ?_
              refine lv_i2l hx hb dX12_share_37 rfl ?_
              refine lv_topl (fun x20 e21 => ?_)
              have e22 : x20 = (-11) := by rw [e21]; decide
              subst e22
              exact hw_lretR (v := (-11)) hx hb hr hlocks hQ (Or.inr (Or.inr (Or.inl ⟨rfl, (by first | rfl | trivial | assumption | omega | (intros; first | rfl | assumption | omega | (exfalso; omega))), (by first | rfl | trivial | assumption | omega | (intros; first | rfl | assumption | omega | (exfalso; omega))), (by first | rfl | trivial | assumption | omega | (intros; first | rfl | assumption | omega | (exfalso; omega)))⟩))) dX12_share_38
          · refine lv_istore_n (lv' := [(3, .int (-12)), (0, .ref h0), (1, .int p1), (2, .int p2)]) hx hb dX12_share_31 rfl hl (by decide) rfl (fun ls hl => ?_)
            refine lv_iload_n hx hb dX12_share_32 rfl (lv_at hl 0 rfl) ?_
            refine lv_if_eq (tgt := 39) hx hb dX12_share_33 (by decide) (fun c23 => ?_) (fun c23 => ?_)
            · exact absurd c23 (by decide)
            · refine lv_iload_n hx hb dX12_share_36 rfl (lv_at hl 0 rfl) ?_
              refine lv_i2l hx hb dX12_share_37 rfl ?_
              refine lv_topl (fun x24 e25 => ?_)
              have e26 : x24 = (-12) := by rw [e25]; decide
              subst e26
              exact hw_lretR (v := (-12)) hx hb hr hlocks hQ (Or.inr (Or.inr (Or.inr (Or.inl ⟨rfl, (by first | rfl | trivial | assumption | omega | (intros; first | rfl | assumption | omega | (exfalso; omega))), (by first | rfl | trivial | assumption | omega | (intros; first | rfl | assumption | omega | (exfalso; omega))), (by first | rfl | trivial | assumption | omega | (intros; first | rfl | assumption | omega | (exfalso; omega))), (by first | rfl | trivial | assumption | omega | (intros; first | rfl | assumption | omega | (exfalso; omega)))⟩)))) dX12_share_38
          · refine lv_istore_n (lv' := [(3, .int 0), (0, .ref h0), (1, .int p1), (2, .int p2)]) hx hb dX12_share_31 rfl hl (by decide) rfl (fun ls hl => ?_)
            refine lv_iload_n hx hb dX12_share_32 rfl (lv_at hl 0 rfl) ?_
            refine lv_if_eq (tgt := 39) hx hb dX12_share_33 (by decide) (fun c27 => ?_) (fun c27 => ?_)
            · refine lv_aload_n hx hb dX12_share_39 rfl (lv_at hl 1 rfl) ?_
              refine hw_get hx hb fg_99_11 hK vm rfl dX12_share_40 ?_
              refine lv_iload_n hx hb dX12_share_43 rfl (lv_at hl 2 rfl) ?_
              refine hw_iald hx hb hK vsz (hw_in (by omega) (by omega)) dX12_share_44 ?_
              refine lv_topi (fun x28 e29 => ?_)
              have n31 : vp_in p1 4 := (hw_in (by omega) (by omega))
              have t30 : (-1) ≤ x28.toInt ∧ x28.toInt ≤ 24 := by rw [e29]; exact qsz _ (Nat.not_le.mp fun q => n31 (Or.inr q))
              have hs1 : x28.toInt = (fsz p1.toNatClampNeg).toInt := by rw [e29]
              refine lv_if_ne (tgt := 52) hx hb dX12_share_45 (by decide) (fun c32 => ?_) (fun c32 => ?_)
              · have b33 : x28.toInt ≠ 0 := hw_ine c32
                have hs24 := qsz p1.toNatClampNeg (hw_i4 (by omega))
                refine lv_lconst (v := 0) hx hb dX12_share_52 (by decide) ?_
                refine lv_lstore (lv' := [(4, .long 0), (3, .int 0), (0, .ref h0), (1, .int p1), (2, .int p2)]) hx hb dX12_share_53 hl (by decide) rfl (fun ls hl => ?_)
                refine lv_iconst (v := 0) hx hb dX12_share_55 (by decide) ?_
                refine lv_istore (lv' := [(6, .int 0), (4, .long 0), (3, .int 0), (0, .ref h0), (1, .int p1), (2, .int p2)]) hx hb dX12_share_56 hl (by decide) rfl (fun ls hl => ?_)
                have L58 : ∀ (n37 : Nat) (y6_34 : Int32) (y4_35 : Int64) (hm : (24 - y6_34.toInt).toNat < n37) (g36 : 0 ≤ y6_34.toInt ∧ y6_34.toInt ≤ 24) (ls : Array Slot) (hl : lv_has ls 12 [(6, .int y6_34), (4, .long y4_35), (3, .int 0), (0, .ref h0), (1, .int p1), (2, .int p2)]), W p l e ({ frames := 2, cells := 0, slots := 0, locals := 45 } : Room) s m args below meth c s.heap [] 0 0 QQ (F0 m 58 ls []) := by
                  intro n37
                  induction n37 with
                  | zero => intro y6_34 y4_35 hm; exact absurd hm (Nat.not_lt_zero _)
                  | succ n37 ih58 =>
                    intro y6_34 y4_35 hm g36 ls hl
                    refine lv_iload hx hb dX12_share_58 (lv_at hl 0 rfl) ?_
                    refine lv_aload_n hx hb dX12_share_60 rfl (lv_at hl 3 rfl) ?_
                    refine hw_get hx hb fg_99_11 hK vm rfl dX12_share_61 ?_
                    refine lv_iload_n hx hb dX12_share_64 rfl (lv_at hl 4 rfl) ?_
                    refine hw_iald hx hb hK vsz (hw_in (by omega) (by omega)) dX12_share_65 ?_
                    refine lv_topi (fun x38 e39 => ?_)
                    have t40 : x38.toInt = x28.toInt := by rw [e39, e29]
                    have n42 : vp_in p1 4 := (hw_in (by omega) (by omega))
                    have t41 : (-1) ≤ x38.toInt ∧ x38.toInt ≤ 24 := by rw [e39]; exact qsz _ (Nat.not_le.mp fun q => n42 (Or.inr q))
                    have hs2 : x38.toInt = (fsz p1.toNatClampNeg).toInt := by rw [e39]
                    refine lv_icmp_ge (tgt := 92) hx hb dX12_share_66 (by decide) (fun c43 => ?_) (fun c43 => ?_)
                    · have b44 : x38.toInt ≤ y6_34.toInt := hw_ile c43
                      refine lv_lload hx hb dX12_share_92 (lv_at hl 1 rfl) ?_
                      refine lv_lconst (v := 0) hx hb dX12_share_94 (by decide) ?_
                      refine W.lcmp hx hb dX12_share_95 ?_
                      refine lv_topi (fun x45 e46 => ?_)
                      refine lv_if_ge (tgt := 105) hx hb dX12_share_96 (by decide) (fun c47 => ?_) (fun c47 => ?_)
                      · have b48 := hw_cmpge (e46 ▸ c47)
                        have b49 : 0 ≤ y4_35.toInt := hw_Lle b48
                        refine lv_lload hx hb dX12_share_105 (lv_at hl 1 rfl) ?_
                        refine lv_lstore (lv' := [(6, .long y4_35), (4, .long y4_35), (3, .int 0), (0, .ref h0), (1, .int p1), (2, .int p2)]) hx hb dX12_share_107 hl (by decide) rfl (fun ls hl => ?_)
                        refine lv_aload_n hx hb dX12_share_109 rfl (lv_at hl 3 rfl) ?_
                        refine hw_get hx hb fg_99_11 hK vm rfl dX12_share_110 ?_
                        refine lv_iload_n hx hb dX12_share_113 rfl (lv_at hl 4 rfl) ?_
                        refine hw_iald hx hb hK vsz (hw_in (by omega) (by omega)) dX12_share_114 ?_
                        refine lv_topi (fun x50 e51 => ?_)
                        have t52 : x50.toInt = x28.toInt := by rw [e51, e29]
                        have n54 : vp_in p1 4 := (hw_in (by omega) (by omega))
                        have t53 : (-1) ≤ x50.toInt ∧ x50.toInt ≤ 24 := by rw [e51]; exact qsz _ (Nat.not_le.mp fun q => n54 (Or.inr q))
                        have hs3 : x50.toInt = (fsz p1.toNatClampNeg).toInt := by rw [e51]
                        refine lv_i2l hx hb dX12_share_115 rfl ?_
                        refine lv_topl (fun x55 e56 => ?_)
                        have t57 : x55.toInt = x50.toInt := by rw [e56]; exact hw_i2l _
                        refine lv_lstore (lv' := [(8, .long x55), (6, .long y4_35), (4, .long y4_35), (3, .int 0), (0, .ref h0), (1, .int p1), (2, .int p2)]) hx hb dX12_share_116 hl (by decide) rfl (fun ls hl => ?_)
                        have L118 : ∀ (n60 : Nat) (y8_58 : Int64) (y6_59 : Int64) (hm : y8_58.toInt.natAbs < n60) (inv118_0 : y6_59.toInt ≠ 0 ∨ y8_58.toInt ≠ 0) (ls : Array Slot) (hl : lv_has ls 12 [(8, .long y8_58), (6, .long y6_59), (4, .long y4_35), (3, .int 0), (0, .ref h0), (1, .int p1), (2, .int p2)]), W p l e ({ frames := 2, cells := 0, slots := 0, locals := 45 } : Room) s m args below meth c s.heap [] 0 0 QQ (F0 m 118 ls []) := by
                          intro n60
                          induction n60 with
                          | zero => intro y8_58 y6_59 hm; exact absurd hm (Nat.not_lt_zero _)
                          | succ n60 ih118 =>
                            intro y8_58 y6_59 hm inv118_0 ls hl
                            refine lv_lload hx hb dX12_share_118 (lv_at hl 0 rfl) ?_
                            refine lv_lconst (v := 0) hx hb dX12_share_120 (by decide) ?_
                            refine W.lcmp hx hb dX12_share_121 ?_
                            refine lv_topi (fun x61 e62 => ?_)
                            refine lv_if_eq (tgt := 143) hx hb dX12_share_122 (by decide) (fun c63 => ?_) (fun c63 => ?_)
                            · have b64 := hw_cmpeq (e62 ▸ c63)
                              have b65 : y8_58.toInt = 0 := hw_Leq b64
                              refine lv_iload_n hx hb dX12_share_143 rfl (lv_at hl 6 rfl) ?_
                              refine lv_iconst (v := 1) hx hb dX12_share_144 (by decide) ?_
                              refine lv_icmp_ne (tgt := 161) hx hb dX12_share_145 (by decide) (fun c66 => ?_) (fun c66 => ?_)
                              · have b67 : p2.toInt ≠ 1 := hw_ine c66
                                refine lv_lload hx hb dX12_share_161 (lv_at hl 2 rfl) ?_
                                refine lv_lload hx hb dX12_share_163 (lv_at hl 1 rfl) ?_
                                refine lv_ldiv hx hb dX12_share_165 (fun h9 => by have h8 := hw_Leq h9; omega) ?_
                                refine lv_topl (fun x68 e69 => ?_)
                                refine lv_ldc2 (v := 100000000000) hx hb hown (hts (.constantLong RX12 337 (100000000000)) (by decide +kernel)) dX12_share_166 ?_
                                refine lv_ladd hx hb dX12_share_169  ?_
                                refine lv_topl (fun x70 e71 => ?_)
                                exact hw_lretR (v := x70) hx hb hr hlocks hQ (Or.inr (Or.inr (Or.inr (Or.inr (Or.inr (⟨x70, rfl, (by first | rfl | trivial | assumption | omega | (intros; first | rfl | assumption | omega | (exfalso; omega))), (by first | rfl | trivial | assumption | omega | (intros; first | rfl | assumption | omega | (exfalso; omega))), (by first | rfl | trivial | assumption | omega | (intros; first | rfl | assumption | omega | (exfalso; omega))), (by first | rfl | trivial | assumption | omega | (intros; first | rfl | assumption | omega | (exfalso; omega)))⟩)))))) dX12_share_170
                              · have b72 : p2.toInt = 1 := hw_ieq c66
                                refine lv_aload_n hx hb dX12_share_148 rfl (lv_at hl 4 rfl) ?_
                                refine hw_get hx hb fg_99_11 hK vm rfl dX12_share_149 ?_
                                refine lv_iload_n hx hb dX12_share_152 rfl (lv_at hl 5 rfl) ?_
                                refine hw_iald hx hb hK vsz (hw_in (by omega) (by omega)) dX12_share_153 ?_
                                refine lv_topi (fun x73 e74 => ?_)
                                have t75 : x73.toInt = x28.toInt := by rw [e74, e29]
                                have n77 : vp_in p1 4 := (hw_in (by omega) (by omega))
                                have t76 : (-1) ≤ x73.toInt ∧ x73.toInt ≤ 24 := by rw [e74]; exact qsz _ (Nat.not_le.mp fun q => n77 (Or.inr q))
                                refine lv_i2l hx hb dX12_share_154 rfl ?_
                                refine lv_topl (fun x78 e79 => ?_)
                                have t80 : x78.toInt = x73.toInt := by rw [e79]; exact hw_i2l _
                                refine lv_lload hx hb dX12_share_155 (lv_at hl 1 rfl) ?_
                                refine lv_ldiv hx hb dX12_share_157 (fun h9 => by have h8 := hw_Leq h9; omega) ?_
                                refine lv_topl (fun x81 e82 => ?_)
                                refine lv_goto (tgt := 170) hx hb dX12_share_158 (by decide) ?_
                                exact hw_lretR (v := x81) hx hb hr hlocks hQ (Or.inr (Or.inr (Or.inr (Or.inr (Or.inr (⟨x81, rfl, (by first | rfl | trivial | assumption | omega | (intros; first | rfl | assumption | omega | (exfalso; omega))), (by first | rfl | trivial | assumption | omega | (intros; first | rfl | assumption | omega | (exfalso; omega))), (by first | rfl | trivial | assumption | omega | (intros; first | rfl | assumption | omega | (exfalso; omega))), (by first | rfl | trivial | assumption | omega | (intros; first | rfl | assumption | omega | (exfalso; omega)))⟩)))))) dX12_share_170
                            · have b83 := hw_cmpneq (e62 ▸ c63)
                              have b84 : y8_58.toInt ≠ 0 := hw_Lne b83
                              refine lv_lload hx hb dX12_share_125 (lv_at hl 1 rfl) ?_
                              refine lv_lload hx hb dX12_share_127 (lv_at hl 0 rfl) ?_
                              refine lv_lrem hx hb dX12_share_129 (by assumption) ?_
                              refine lv_topl (fun x85 e86 => ?_)
                              have t87 : x85.toInt.natAbs < y8_58.toInt.natAbs := by rw [e86]; exact hw_lrem (by assumption)
                              refine lv_lstore (lv' := [(10, .long x85), (8, .long y8_58), (6, .long y6_59), (4, .long y4_35), (3, .int 0), (0, .ref h0), (1, .int p1), (2, .int p2)]) hx hb dX12_share_130 hl (by decide) rfl (fun ls hl => ?_)
                              refine lv_lload hx hb dX12_share_132 (lv_at hl 1 rfl) ?_
                              refine lv_lstore (lv' := [(6, .long y8_58), (10, .long x85), (8, .long y8_58), (4, .long y4_35), (3, .int 0), (0, .ref h0), (1, .int p1), (2, .int p2)]) hx hb dX12_share_134 hl (by decide) rfl (fun ls hl => ?_)
                              refine lv_lload hx hb dX12_share_136 (lv_at hl 1 rfl) ?_
                              refine lv_lstore (lv' := [(8, .long x85), (6, .long y8_58), (10, .long x85), (4, .long y4_35), (3, .int 0), (0, .ref h0), (1, .int p1), (2, .int p2)]) hx hb dX12_share_138 hl (by decide) rfl (fun ls hl => ?_)
                              refine lv_goto (tgt := 118) hx hb dX12_share_140 (by decide) ?_
                              exact ih118 x85 y8_58 (by first | omega | omega) (by first | assumption | omega | decide | rfl | (intros; first | rfl | assumption | omega)) _ (lv_sub hl [0, 1, 3, 4, 5, 6, 7] rfl)
                        exact L118 _ x55 y4_35 (Nat.lt_succ_self _) (by first | assumption | omega | decide | rfl | (intros; first | rfl | assumption | omega)) _ (lv_sub hl [0, 1, 2, 3, 4, 5, 6] rfl)
                      · have b88 := hw_cmpnge (e46 ▸ c47)
                        have b89 : y4_35.toInt < 0 := hw_Lnle b88
                        refine lv_lload hx hb dX12_share_99 (lv_at hl 1 rfl) ?_
                        refine lv_lneg hx hb dX12_share_101 ?_
                        refine lv_topl (fun x90 e91 => ?_)
                        refine lv_goto (tgt := 107) hx hb dX12_share_102 (by decide) ?_
                        refine lv_lstore (lv' := [(6, .long x90), (4, .long y4_35), (3, .int 0), (0, .ref h0), (1, .int p1), (2, .int p2)]) hx hb dX12_share_107 hl (by decide) rfl (fun ls hl => ?_)
                        refine lv_aload_n hx hb dX12_share_109 rfl (lv_at hl 3 rfl) ?_
                        refine hw_get hx hb fg_99_11 hK vm rfl dX12_share_110 ?_
                        refine lv_iload_n hx hb dX12_share_113 rfl (lv_at hl 4 rfl) ?_
                        refine hw_iald hx hb hK vsz (hw_in (by omega) (by omega)) dX12_share_114 ?_
                        refine lv_topi (fun x92 e93 => ?_)
                        have t94 : x92.toInt = x28.toInt := by rw [e93, e29]
                        have n96 : vp_in p1 4 := (hw_in (by omega) (by omega))
                        have t95 : (-1) ≤ x92.toInt ∧ x92.toInt ≤ 24 := by rw [e93]; exact qsz _ (Nat.not_le.mp fun q => n96 (Or.inr q))
                        have hs3 : x92.toInt = (fsz p1.toNatClampNeg).toInt := by rw [e93]
                        refine lv_i2l hx hb dX12_share_115 rfl ?_
                        refine lv_topl (fun x97 e98 => ?_)
                        have t99 : x97.toInt = x92.toInt := by rw [e98]; exact hw_i2l _
                        refine lv_lstore (lv' := [(8, .long x97), (6, .long x90), (4, .long y4_35), (3, .int 0), (0, .ref h0), (1, .int p1), (2, .int p2)]) hx hb dX12_share_116 hl (by decide) rfl (fun ls hl => ?_)
                        have L118 : ∀ (n102 : Nat) (y8_100 : Int64) (y6_101 : Int64) (hm : y8_100.toInt.natAbs < n102) (inv118_0 : y6_101.toInt ≠ 0 ∨ y8_100.toInt ≠ 0) (ls : Array Slot) (hl : lv_has ls 12 [(8, .long y8_100), (6, .long y6_101), (4, .long y4_35), (3, .int 0), (0, .ref h0), (1, .int p1), (2, .int p2)]), W p l e ({ frames := 2, cells := 0, slots := 0, locals := 45 } : Room) s m args below meth c s.heap [] 0 0 QQ (F0 m 118 ls []) := by
                          intro n102
                          induction n102 with
                          | zero => intro y8_100 y6_101 hm; exact absurd hm (Nat.not_lt_zero _)
                          | succ n102 ih118 =>
                            intro y8_100 y6_101 hm inv118_0 ls hl
                            refine lv_lload hx hb dX12_share_118 (lv_at hl 0 rfl) ?_
                            refine lv_lconst (v := 0) hx hb dX12_share_120 (by decide) ?_
                            refine W.lcmp hx hb dX12_share_121 ?_
                            refine lv_topi (fun x103 e104 => ?_)
                            refine lv_if_eq (tgt := 143) hx hb dX12_share_122 (by decide) (fun c105 => ?_) (fun c105 => ?_)
                            · have b106 := hw_cmpeq (e104 ▸ c105)
                              have b107 : y8_100.toInt = 0 := hw_Leq b106
                              refine lv_iload_n hx hb dX12_share_143 rfl (lv_at hl 6 rfl) ?_
                              refine lv_iconst (v := 1) hx hb dX12_share_144 (by decide) ?_
                              refine lv_icmp_ne (tgt := 161) hx hb dX12_share_145 (by decide) (fun c108 => ?_) (fun c108 => ?_)
                              · have b109 : p2.toInt ≠ 1 := hw_ine c108
                                refine lv_lload hx hb dX12_share_161 (lv_at hl 2 rfl) ?_
                                refine lv_lload hx hb dX12_share_163 (lv_at hl 1 rfl) ?_
                                refine lv_ldiv hx hb dX12_share_165 (fun h9 => by have h8 := hw_Leq h9; omega) ?_
                                refine lv_topl (fun x110 e111 => ?_)
                                refine lv_ldc2 (v := 100000000000) hx hb hown (hts (.constantLong RX12 337 (100000000000)) (by decide +kernel)) dX12_share_166 ?_
                                refine lv_ladd hx hb dX12_share_169  ?_
                                refine lv_topl (fun x112 e113 => ?_)
                                exact hw_lretR (v := x112) hx hb hr hlocks hQ (Or.inr (Or.inr (Or.inr (Or.inr (Or.inr (⟨x112, rfl, (by first | rfl | trivial | assumption | omega | (intros; first | rfl | assumption | omega | (exfalso; omega))), (by first | rfl | trivial | assumption | omega | (intros; first | rfl | assumption | omega | (exfalso; omega))), (by first | rfl | trivial | assumption | omega | (intros; first | rfl | assumption | omega | (exfalso; omega))), (by first | rfl | trivial | assumption | omega | (intros; first | rfl | assumption | omega | (exfalso; omega)))⟩)))))) dX12_share_170
                              · have b114 : p2.toInt = 1 := hw_ieq c108
                                refine lv_aload_n hx hb dX12_share_148 rfl (lv_at hl 4 rfl) ?_
                                refine hw_get hx hb fg_99_11 hK vm rfl dX12_share_149 ?_
                                refine lv_iload_n hx hb dX12_share_152 rfl (lv_at hl 5 rfl) ?_
                                refine hw_iald hx hb hK vsz (hw_in (by omega) (by omega)) dX12_share_153 ?_
                                refine lv_topi (fun x115 e116 => ?_)
                                have t117 : x115.toInt = x28.toInt := by rw [e116, e29]
                                have n119 : vp_in p1 4 := (hw_in (by omega) (by omega))
                                have t118 : (-1) ≤ x115.toInt ∧ x115.toInt ≤ 24 := by rw [e116]; exact qsz _ (Nat.not_le.mp fun q => n119 (Or.inr q))
                                refine lv_i2l hx hb dX12_share_154 rfl ?_
                                refine lv_topl (fun x120 e121 => ?_)
                                have t122 : x120.toInt = x115.toInt := by rw [e121]; exact hw_i2l _
                                refine lv_lload hx hb dX12_share_155 (lv_at hl 1 rfl) ?_
                                refine lv_ldiv hx hb dX12_share_157 (fun h9 => by have h8 := hw_Leq h9; omega) ?_
                                refine lv_topl (fun x123 e124 => ?_)
                                refine lv_goto (tgt := 170) hx hb dX12_share_158 (by decide) ?_
                                exact hw_lretR (v := x123) hx hb hr hlocks hQ (Or.inr (Or.inr (Or.inr (Or.inr (Or.inr (⟨x123, rfl, (by first | rfl | trivial | assumption | omega | (intros; first | rfl | assumption | omega | (exfalso; omega))), (by first | rfl | trivial | assumption | omega | (intros; first | rfl | assumption | omega | (exfalso; omega))), (by first | rfl | trivial | assumption | omega | (intros; first | rfl | assumption | omega | (exfalso; omega))), (by first | rfl | trivial | assumption | omega | (intros; first | rfl | assumption | omega | (exfalso; omega)))⟩)))))) dX12_share_170
                            · have b125 := hw_cmpneq (e104 ▸ c105)
                              have b126 : y8_100.toInt ≠ 0 := hw_Lne b125
                              refine lv_lload hx hb dX12_share_125 (lv_at hl 1 rfl) ?_
                              refine lv_lload hx hb dX12_share_127 (lv_at hl 0 rfl) ?_
                              refine lv_lrem hx hb dX12_share_129 (by assumption) ?_
                              refine lv_topl (fun x127 e128 => ?_)
                              have t129 : x127.toInt.natAbs < y8_100.toInt.natAbs := by rw [e128]; exact hw_lrem (by assumption)
                              refine lv_lstore (lv' := [(10, .long x127), (8, .long y8_100), (6, .long y6_101), (4, .long y4_35), (3, .int 0), (0, .ref h0), (1, .int p1), (2, .int p2)]) hx hb dX12_share_130 hl (by decide) rfl (fun ls hl => ?_)
                              refine lv_lload hx hb dX12_share_132 (lv_at hl 1 rfl) ?_
                              refine lv_lstore (lv' := [(6, .long y8_100), (10, .long x127), (8, .long y8_100), (4, .long y4_35), (3, .int 0), (0, .ref h0), (1, .int p1), (2, .int p2)]) hx hb dX12_share_134 hl (by decide) rfl (fun ls hl => ?_)
                              refine lv_lload hx hb dX12_share_136 (lv_at hl 1 rfl) ?_
                              refine lv_lstore (lv' := [(8, .long x127), (6, .long y8_100), (10, .long x127), (4, .long y4_35), (3, .int 0), (0, .ref h0), (1, .int p1), (2, .int p2)]) hx hb dX12_share_138 hl (by decide) rfl (fun ls hl => ?_)
                              refine lv_goto (tgt := 118) hx hb dX12_share_140 (by decide) ?_
                              exact ih118 x127 y8_100 (by first | omega | omega) (by first | assumption | omega | decide | rfl | (intros; first | rfl | assumption | omega)) _ (lv_sub hl [0, 1, 3, 4, 5, 6, 7] rfl)
                        exact L118 _ x97 x90 (Nat.lt_succ_self _) (by first | assumption | omega | decide | rfl | (intros; first | rfl | assumption | omega)) _ (lv_sub hl [0, 1, 2, 3, 4, 5, 6] rfl)
                    · have b130 : y6_34.toInt < x38.toInt := hw_inle c43
                      refine lv_lload hx hb dX12_share_69 (lv_at hl 1 rfl) ?_
                      refine lv_aload_n hx hb dX12_share_71 rfl (lv_at hl 3 rfl) ?_
                      refine hw_get hx hb fg_102_11 hK vm rfl dX12_share_72 ?_
                      refine lv_bipush (v := 24) hx hb dX12_share_75 (by decide) ?_
                      refine lv_iload_n hx hb dX12_share_77 rfl (lv_at hl 4 rfl) ?_
                      refine lv_imul hx hb dX12_share_78 ?_
                      refine lv_topi (fun x131 e132 => ?_)
                      have t133 : x131.toInt = 24 * p1.toInt := by rw [e132]; exact hw_mul rfl rfl (by omega) (by omega)
                      refine lv_iload hx hb dX12_share_79 (lv_at hl 0 rfl) ?_
                      refine lv_iadd hx hb dX12_share_81 ?_
                      refine lv_topi (fun x134 e135 => ?_)
                      have t136 : x134.toInt = x131.toInt + y6_34.toInt := by rw [e135]; exact hw_add rfl rfl (by omega) (by omega)
                      obtain ⟨f137, v138⟩ := hH.a83 (hw_RM_43 Rm)
                      refine hw_lald hx hb hK v138 (hw_in (by omega) (by omega)) dX12_share_82 ?_
                      refine lv_topl (fun x140 e141 => ?_)
                      refine lv_ladd hx hb dX12_share_83  ?_
                      refine lv_topl (fun x142 e143 => ?_)
                      refine lv_lstore (lv' := [(4, .long x142), (6, .int y6_34), (3, .int 0), (0, .ref h0), (1, .int p1), (2, .int p2)]) hx hb dX12_share_84 hl (by decide) rfl (fun ls hl => ?_)
                      obtain ⟨x144, e145⟩ : ∃ y : Int32, y = y6_34 + 1 := ⟨_, rfl⟩
                      refine lv_iinc (v := x144) (lv' := [(6, .int x144), (4, .long x142), (3, .int 0), (0, .ref h0), (1, .int p1), (2, .int p2)]) hx hb dX12_share_86 hl (k := 1) rfl (by rw [e145]; rfl) (by decide) rfl (fun ls hl => ?_)
                      have t146 : x144.toInt = y6_34.toInt + 1 := by rw [e145]; exact hw_add rfl rfl (by omega) (by omega)
                      refine lv_goto (tgt := 58) hx hb dX12_share_89 (by decide) ?_
                      exact ih58 x144 x142 (by first | omega | omega) ⟨by first | decide | omega, by first | decide | omega⟩ _ (lv_sub hl [0, 1, 2, 3, 4, 5] rfl)
                exact L58 _ 0 0 (Nat.lt_succ_self _) ⟨by first | decide | omega, by first | decide | omega⟩ _ (lv_sub hl [0, 1, 2, 3, 4, 5] rfl)
              · have b147 : x28.toInt = 0 := hw_ieq c32
                refine lv_ldc2 (v := (-16)) hx hb hown (hts (.constantLong RX12 335 (-16)) (by decide +kernel)) dX12_share_48 ?_
                exact hw_lretR (v := (-16)) hx hb hr hlocks hQ (Or.inr (Or.inr (Or.inr (Or.inr (Or.inl ⟨rfl, (by first | rfl | trivial | assumption | omega | (intros; first | rfl | assumption | omega | (exfalso; omega))), (by first | rfl | trivial | assumption | omega | (intros; first | rfl | assumption | omega | (exfalso; omega))), (by first | rfl | trivial | assumption | omega | (intros; first | rfl | assumption | omega | (exfalso; omega))), (by first | rfl | trivial | assumption | omega | (intros; first | rfl | assumption | omega | (exfalso; omega)))⟩))))) dX12_share_51
            · exact absurd c27 (by decide)
        · exact absurd c12 (by decide)
      · refine lv_if_ne (tgt := 25) hx hb dX12_share_18 (by decide) (fun c148 => ?_) (fun c148 => ?_)
        · exact absurd c148 (by decide)
        · refine lv_ldc2 (v := (-3)) hx hb hown (hts (.constantLong RX12 333 (-3)) (by decide +kernel)) dX12_share_21 ?_
          exact hw_lretR (v := (-3)) hx hb hr hlocks hQ (Or.inr (Or.inl ⟨rfl, (by first | rfl | trivial | assumption | omega | (intros; first | rfl | assumption | omega | (exfalso; omega))), (by first | rfl | trivial | assumption | omega | (intros; first | rfl | assumption | omega | (exfalso; omega)))⟩)) dX12_share_24
    · exact absurd c3 (by decide)
  · refine lv_if_ne (tgt := 11) hx hb dX12_share_4 (by decide) (fun c149 => ?_) (fun c149 => ?_)
    · exact absurd c149 (by decide)
    · refine lv_ldc2 (v := (-2)) hx hb hown (hts (.constantLong RX12 319 (-2)) (by decide +kernel)) dX12_share_7 ?_
      exact hw_lretR (v := (-2)) hx hb hr hlocks hQ (Or.inl ⟨rfl, (by first | rfl | trivial | assumption | omega | (intros; first | rfl | assumption | omega | (exfalso; omega)))⟩) dX12_share_10

set_option maxHeartbeats 4000000 in
set_option maxRecDepth 100000 in
theorem k_X12_film (l : Launch) (D : hw_D) (G : Nat → Nat) (h0 : Nat) (p1 : Int32) (p2 : Int32) (p3 : Int32) (sz : Nat) (rm : Nat → Nat) (ud_m ky_m lo_m wk_m dk_m ln_m sm_m fi_m be_m rk_m rl_m rw_m cl_m dg_m : Int32) (fla : Nat → Int32) (fsz : Nat → Int32) (G0 : G h0 = 9) (Rm : hw_RM G rm) (gud_m : 0 ≤ ud_m.toInt ∧ ud_m.toInt ≤ 8) (gky_m : 0 ≤ ky_m.toInt ∧ ky_m.toInt ≤ 7) (glo_m : 0 ≤ lo_m.toInt ∧ lo_m.toInt ≤ 7) (gwk_m : 0 ≤ wk_m.toInt ∧ wk_m.toInt ≤ 3) (gln_m : 0 ≤ ln_m.toInt ∧ ln_m.toInt ≤ 200) (gsm_m : 0 ≤ sm_m.toInt ∧ sm_m.toInt ≤ 6) (gfi_m : 0 ≤ fi_m.toInt ∧ fi_m.toInt ≤ 200) (gbe_m : 0 ≤ be_m.toInt ∧ be_m.toInt ≤ 200) (grk_m : 0 ≤ rk_m.toInt ∧ rk_m.toInt ≤ 7) (grl_m : 0 ≤ rl_m.toInt ∧ rl_m.toInt ≤ 7) (grw_m : 0 ≤ rw_m.toInt ∧ rw_m.toInt ≤ 3) (gdg_m : 0 ≤ dg_m.toInt ∧ dg_m.toInt ≤ 1) (qsz : ∀ j, j < 4 → (-1) ≤ (fsz j).toInt ∧ (fsz j).toInt ≤ 24) : Met l yX12_film wsX12_film ({ frames := 6, cells := 0, slots := 0, locals := 137 } : Room) (hw_PC D G [.ref h0, .int p1, .int p2, .int p3] sz (fun H => va_at D.1 vwCl (h0, .inr (11, hw_LM rm ud_m ky_m lo_m wk_m dk_m ln_m sm_m fi_m be_m rk_m rl_m rw_m cl_m dg_m)) H ∧ va_at D.1 vwCl ((rm 41), .inl (D.2.1 0, 4, .inl fla)) H ∧ va_at D.1 vwCl ((rm 42), .inl (D.2.1 0, 4, .inl fsz)) H)) (hw_QM (fun v H => ∃ (r : Int32), v = some (.int r) ∧ hw_HT D G H ∧ va_at D.1 vwCl (h0, .inr (11, hw_LM rm ud_m ky_m lo_m wk_m dk_m ln_m sm_m fi_m be_m rk_m rl_m rw_m cl_m dg_m)) H ∧ va_at D.1 vwCl ((rm 41), .inl (D.2.1 0, 4, .inl fla)) H ∧ va_at D.1 vwCl ((rm 42), .inl (D.2.1 0, 4, .inl fsz)) H ∧ (ky_m.toInt = 0 → r.toInt = -2)) (hw_AW G [83] sz)) 0 0 (hw_AW G [83] sz) := by
  refine hw_met (cc := cX12_film) (maxL := 7) (ret := (some .int)) (plainFor_of_name (by decide)) rfl (Nat.le_of_ble_eq_true rfl) ?_
  intro p e s m args below meth c QQ ls hsz hx hb hml hr hts hown hlocks hnm hH hK hST hF hQ hl
  subst hsz
  have hS : va_S (hw_AW G [83] s.heap.size) s.heap s.heap [] := va_S.rf
  obtain ⟨vm, vla, vsz⟩ := hF
  have hl : lv_has ls 7 [(0, .ref h0), (1, .int p1), (2, .int p2), (3, .int p3)] := hl
  have u_11 : ∀ w ∈ u_ws RX12 TX12 45, w.before args s = true := fun w hw => hts w ((by decide +kernel : ∀ w ∈ u_ws RX12 TX12 45, w ∈ wsX12_film) w hw)
  have fg_145_11 : hw_FG s args m 145 11 7 := ⟨RX12, "WardWalkersModel", RX12, TX12, 45, u_11, hown, rfl, by decide, (hts (.fieldLink RX12 145 "WardWalkersModel" "locks" "I") (by decide +kernel)), (fun _ h9 => h9)⟩
  have fg_102_11 : hw_FG s args m 102 11 43 := ⟨RX12, "WardWalkersModel", RX12, TX12, 45, u_11, hown, rfl, by decide, (hts (.fieldLink RX12 102 "WardWalkersModel" "things" "[J") (by decide +kernel)), (fun _ h9 => h9)⟩
  refine lv_aload_n hx hb dX12_film_0 rfl (lv_at hl 0 rfl) ?_
  refine lv_iload_n hx hb dX12_film_1 rfl (lv_at hl 1 rfl) ?_
  refine hw_cR (va_runV (As := [.int p1]) (rest := []) ⟨hx, hb, hml, hown, hts⟩ (k_X12_isKey l D G h0 p1 _ rm ud_m ky_m lo_m wk_m dk_m ln_m sm_m fi_m be_m rk_m rl_m rw_m cl_m dg_m G0 Rm ⟨by first | decide | omega, by first | decide | omega⟩ ⟨by first | decide | omega, by first | decide | omega⟩ ⟨by first | decide | omega, by first | decide | omega⟩ ⟨by first | decide | omega, by first | decide | omega⟩ ⟨by first | decide | omega, by first | decide | omega⟩ ⟨by first | decide | omega, by first | decide | omega⟩ ⟨by first | decide | omega, by first | decide | omega⟩ ⟨by first | decide | omega, by first | decide | omega⟩ ⟨by first | decide | omega, by first | decide | omega⟩ ⟨by first | decide | omega, by first | decide | omega⟩ ⟨by first | decide | omega, by first | decide | omega⟩ ⟨by first | decide | omega, by first | decide | omega⟩) (cwV 1 hts gX12_film_X12_isKey rfl rfl rfl (by decide +kernel) ⟨Nat.le_of_ble_eq_true rfl, Nat.le_of_ble_eq_true rfl⟩) (hw_pV (hw_rc (q := (RX12, TX12, 45)) hK vm rfl) hH hK hST hS (by decide) (fun _ h => Or.inl h) vm) rfl rfl hl.1 rfl (lv_room (Nat.le_of_ble_eq_true rfl)) dX12_film_2 ⟨Nat.le_of_ble_eq_true rfl, Nat.le_of_ble_eq_true rfl⟩) (fun v hp => ?_)
  rcases hp with ⟨rfl, q1⟩ | ⟨rfl, q2⟩
  · refine lv_if_eq (tgt := 15) hx hb dX12_film_5 (by decide) (fun c3 => ?_) (fun c3 => ?_)
    · exact absurd c3 (by decide)
    · refine lv_iload_n hx hb dX12_film_8 rfl (lv_at hl 2 rfl) ?_
      refine hw_cR (va_runS (As := [.int p2]) (rest := []) ⟨hx, hb, hml, hown, hts⟩ (k_X12_isRack l D G p2 _) (va_cwS 1 hts gX12_film_X12_isRack rfl rfl rfl (by decide +kernel) ⟨Nat.le_of_ble_eq_true rfl, Nat.le_of_ble_eq_true rfl⟩) (hw_pS hH hK hST hS (by decide) (fun _ h => Or.inl h) trivial) rfl rfl hl.1 rfl (lv_room (Nat.le_of_ble_eq_true rfl)) dX12_film_9 ⟨Nat.le_of_ble_eq_true rfl, Nat.le_of_ble_eq_true rfl⟩) (fun v hp => ?_)
      rcases hp with ⟨rfl, q4⟩ | ⟨rfl, q5⟩
      · refine lv_if_ne (tgt := 18) hx hb dX12_film_12 (by decide) (fun c6 => ?_) (fun c6 => ?_)
        · refine lv_aload_n hx hb dX12_film_18 rfl (lv_at hl 0 rfl) ?_
          refine lv_iload_n hx hb dX12_film_19 rfl (lv_at hl 2 rfl) ?_
          refine lv_iconst (v := 4) hx hb dX12_film_20 (by decide) ?_
          refine hw_cR (va_runV (As := [.int p2, .int 4]) (rest := []) ⟨hx, hb, hml, hown, hts⟩ (k_X12_noRack l D G h0 p2 4 _ rm ud_m ky_m lo_m wk_m dk_m ln_m sm_m fi_m be_m rk_m rl_m rw_m cl_m dg_m fla fsz G0 Rm ⟨by first | decide | omega, by first | decide | omega⟩ ⟨by first | decide | omega, by first | decide | omega⟩ ⟨by first | decide | omega, by first | decide | omega⟩ ⟨by first | decide | omega, by first | decide | omega⟩ ⟨by first | decide | omega, by first | decide | omega⟩ ⟨by first | decide | omega, by first | decide | omega⟩ ⟨by first | decide | omega, by first | decide | omega⟩ ⟨by first | decide | omega, by first | decide | omega⟩ ⟨by first | decide | omega, by first | decide | omega⟩ ⟨by first | decide | omega, by first | decide | omega⟩ ⟨by first | decide | omega, by first | decide | omega⟩ ⟨by first | decide | omega, by first | decide | omega⟩ qsz (by first | assumption | decide | omega)) (cwV 2 hts gX12_film_X12_noRack rfl rfl rfl (by decide +kernel) ⟨Nat.le_of_ble_eq_true rfl, Nat.le_of_ble_eq_true rfl⟩) (hw_pV (hw_rc (q := (RX12, TX12, 45)) hK vm rfl) hH hK hST hS (by decide) (fun _ h => Or.inl h) ⟨vm, vla, vsz⟩) rfl rfl hl.1 rfl (lv_room (Nat.le_of_ble_eq_true rfl)) dX12_film_21 ⟨Nat.le_of_ble_eq_true rfl, Nat.le_of_ble_eq_true rfl⟩) (fun v hp => ?_)
          have l7 : (4 : Int32).toInt = 4 := rfl
          rcases hp with ⟨rfl, q8⟩ | ⟨rfl, q9, q10⟩ | ⟨rfl, q11, q12⟩
          · refine lv_istore (lv' := [(4, .int (-11)), (0, .ref h0), (1, .int p1), (2, .int p2), (3, .int p3)]) hx hb dX12_film_24 hl (by decide) rfl (fun ls hl => ?_)
            refine lv_iload hx hb dX12_film_26 (lv_at hl 0 rfl) ?_
            refine lv_if_eq (tgt := 34) hx hb dX12_film_28 (by decide) (fun c13 => ?_) (fun c13 => ?_)
            · exact absurd c13 (by decide)
            · refine lv_iload hx hb dX12_film_31 (lv_at hl 0 rfl) ?_
              exact hw_iretM (v := (-11)) hx hb hr hlocks hQ hS rfl (⟨(-11), rfl, hH, vm, vla, vsz, (by first | rfl | trivial | assumption | omega | (intros; first | rfl | assumption | omega | (exfalso; omega)))⟩) dX12_film_33
          · refine lv_istore (lv' := [(4, .int (-12)), (0, .ref h0), (1, .int p1), (2, .int p2), (3, .int p3)]) hx hb dX12_film_24 hl (by decide) rfl (fun ls hl => ?_)
            refine lv_iload hx hb dX12_film_26 (lv_at hl 0 rfl) ?_
            refine lv_if_eq (tgt := 34) hx hb dX12_film_28 (by decide) (fun c14 => ?_) (fun c14 => ?_)
            · exact absurd c14 (by decide)
            · refine lv_iload hx hb dX12_film_31 (lv_at hl 0 rfl) ?_
              exact hw_iretM (v := (-12)) hx hb hr hlocks hQ hS rfl (⟨(-12), rfl, hH, vm, vla, vsz, (by first | rfl | trivial | assumption | omega | (intros; first | rfl | assumption | omega | (exfalso; omega)))⟩) dX12_film_33
          · refine lv_istore (lv' := [(4, .int 0), (0, .ref h0), (1, .int p1), (2, .int p2), (3, .int p3)]) hx hb dX12_film_24 hl (by decide) rfl (fun ls hl => ?_)
            refine lv_iload hx hb dX12_film_26 (lv_at hl 0 rfl) ?_
            refine lv_if_eq (tgt := 34) hx hb dX12_film_28 (by decide) (fun c15 => ?_) (fun c15 => ?_)
            · refine lv_aload_n hx hb dX12_film_34 rfl (lv_at hl 1 rfl) ?_
              refine lv_iload_n hx hb dX12_film_35 rfl (lv_at hl 3 rfl) ?_
              refine lv_iload_n hx hb dX12_film_36 rfl (lv_at hl 4 rfl) ?_
              refine lv_aload_n hx hb dX12_film_37 rfl (lv_at hl 1 rfl) ?_
              refine hw_get hx hb fg_145_11 hK vm rfl dX12_film_38 ?_
              refine hw_cR (va_runV (As := [.int p2, .int p3, .int lo_m]) (rest := []) ⟨hx, hb, hml, hown, hts⟩ (k_X12_isSpan l D G h0 p2 p3 lo_m _ rm ud_m ky_m lo_m wk_m dk_m ln_m sm_m fi_m be_m rk_m rl_m rw_m cl_m dg_m fsz G0 Rm ⟨by first | decide | omega, by first | decide | omega⟩ ⟨by first | decide | omega, by first | decide | omega⟩ ⟨by first | decide | omega, by first | decide | omega⟩ ⟨by first | decide | omega, by first | decide | omega⟩ ⟨by first | decide | omega, by first | decide | omega⟩ ⟨by first | decide | omega, by first | decide | omega⟩ ⟨by first | decide | omega, by first | decide | omega⟩ ⟨by first | decide | omega, by first | decide | omega⟩ ⟨by first | decide | omega, by first | decide | omega⟩ ⟨by first | decide | omega, by first | decide | omega⟩ ⟨by first | decide | omega, by first | decide | omega⟩ ⟨by first | decide | omega, by first | decide | omega⟩ qsz (by first | assumption | decide | omega)) (cwV 3 hts gX12_film_X12_isSpan rfl rfl rfl (by decide +kernel) ⟨Nat.le_of_ble_eq_true rfl, Nat.le_of_ble_eq_true rfl⟩) (hw_pV (hw_rc (q := (RX12, TX12, 45)) hK vm rfl) hH hK hST hS (by decide) (fun _ h => Or.inl h) ⟨vm, vsz⟩) rfl rfl hl.1 rfl (lv_room (Nat.le_of_ble_eq_true rfl)) dX12_film_41 ⟨Nat.le_of_ble_eq_true rfl, Nat.le_of_ble_eq_true rfl⟩) (fun v hp => ?_)
              rcases hp with ⟨rfl, q16⟩ | ⟨rfl, q17⟩
              · refine lv_if_ne (tgt := 50) hx hb dX12_film_44 (by decide) (fun c18 => ?_) (fun c18 => ?_)
                · have hs24 := qsz p2.toNatClampNeg (hw_i4 (by omega))
                  refine lv_aload_n hx hb dX12_film_50 rfl (lv_at hl 1 rfl) ?_
                  refine lv_iload_n hx hb dX12_film_51 rfl (lv_at hl 2 rfl) ?_
                  refine hw_cR (va_runV (As := [.int p1]) (rest := []) ⟨hx, hb, hml, hown, hts⟩ (k_X12_belongings l D G h0 p1 _ G0 (by first | assumption | decide | omega)) (cwV 1 hts gX12_film_X12_belongings rfl rfl rfl (by decide +kernel) ⟨Nat.le_of_ble_eq_true rfl, Nat.le_of_ble_eq_true rfl⟩) (hw_pV (hw_rc (q := (RX12, TX12, 45)) hK vm rfl) hH hK hST hS (by decide) (fun _ h => Or.inl h) trivial) rfl rfl hl.1 rfl (lv_room (Nat.le_of_ble_eq_true rfl)) dX12_film_52 ⟨Nat.le_of_ble_eq_true rfl, Nat.le_of_ble_eq_true rfl⟩) (fun v hp => ?_)
                  obtain ⟨x19, rfl⟩ := hp
                  refine lv_istore (lv' := [(5, .int x19), (4, .int 0), (0, .ref h0), (1, .int p1), (2, .int p2), (3, .int p3)]) hx hb dX12_film_55 hl (by decide) rfl (fun ls hl => ?_)
                  refine lv_iconst (v := 0) hx hb dX12_film_57 (by decide) ?_
                  refine lv_istore (lv' := [(6, .int 0), (5, .int x19), (4, .int 0), (0, .ref h0), (1, .int p1), (2, .int p2), (3, .int p3)]) hx hb dX12_film_58 hl (by decide) rfl (fun ls hl => ?_)
                  have L60 : ∀ (n22 : Nat) (y6_20 : Int32) (hm : (7 - y6_20.toInt).toNat < n22) (g21 : 0 ≤ y6_20.toInt ∧ y6_20.toInt ≤ 7) (H : Heap) (locs : List Loc) (hH : hw_HT D G H) (vm : va_at D.1 vwCl (h0, .inr (11, hw_LM rm ud_m ky_m lo_m wk_m dk_m ln_m sm_m fi_m be_m rk_m rl_m rw_m cl_m dg_m)) H) (vla : va_at D.1 vwCl ((rm 41), .inl (D.2.1 0, 4, .inl fla)) H) (vsz : va_at D.1 vwCl ((rm 42), .inl (D.2.1 0, 4, .inl fsz)) H) (hS : va_S (hw_AW G [83] s.heap.size) s.heap H locs) (ls : Array Slot) (hl : lv_has ls 7 [(6, .int y6_20), (5, .int x19), (4, .int 0), (0, .ref h0), (1, .int p1), (2, .int p2), (3, .int p3)]), W p l e ({ frames := 6, cells := 0, slots := 0, locals := 137 } : Room) s m args below meth c H locs 0 0 QQ (F0 m 60 ls []) := by
                    intro n22
                    induction n22 with
                    | zero => intro y6_20 hm; exact absurd hm (Nat.not_lt_zero _)
                    | succ n22 ih60 =>
                      intro y6_20 hm g21 H locs hH vm vla vsz hS ls hl
                      refine lv_iload hx hb dX12_film_60 (lv_at hl 0 rfl) ?_
                      refine lv_aload_n hx hb dX12_film_62 rfl (lv_at hl 3 rfl) ?_
                      refine hw_get hx hb fg_145_11 hK vm rfl dX12_film_63 ?_
                      refine lv_icmp_ge (tgt := 97) hx hb dX12_film_66 (by decide) (fun c23 => ?_) (fun c23 => ?_)
                      · have b24 : lo_m.toInt ≤ y6_20.toInt := hw_ile c23
                        refine lv_aload_n hx hb dX12_film_97 rfl (lv_at hl 3 rfl) ?_
                        refine hw_get hx hb fg_145_11 hK vm rfl dX12_film_98 ?_
                        exact hw_iretM (v := lo_m) hx hb hr hlocks hQ hS rfl (⟨lo_m, rfl, hH, vm, vla, vsz, (by first | rfl | trivial | assumption | omega | (intros; first | rfl | assumption | omega | (exfalso; omega)))⟩) dX12_film_101
                      · have b25 : y6_20.toInt < lo_m.toInt := hw_inle c23
                        refine lv_aload_n hx hb dX12_film_69 rfl (lv_at hl 3 rfl) ?_
                        refine hw_get hx hb fg_102_11 hK vm rfl dX12_film_70 ?_
                        refine lv_bipush (v := 24) hx hb dX12_film_73 (by decide) ?_
                        refine lv_iload_n hx hb dX12_film_75 rfl (lv_at hl 5 rfl) ?_
                        refine lv_imul hx hb dX12_film_76 ?_
                        refine lv_topi (fun x26 e27 => ?_)
                        have t28 : x26.toInt = 24 * p2.toInt := by rw [e27]; exact hw_mul rfl rfl (by omega) (by omega)
                        refine lv_iload_n hx hb dX12_film_77 rfl (lv_at hl 6 rfl) ?_
                        refine lv_iadd hx hb dX12_film_78 ?_
                        refine lv_topi (fun x29 e30 => ?_)
                        have t31 : x29.toInt = x26.toInt + p3.toInt := by rw [e30]; exact hw_add rfl rfl (by omega) (by omega)
                        refine lv_iload hx hb dX12_film_79 (lv_at hl 0 rfl) ?_
                        refine lv_iadd hx hb dX12_film_81 ?_
                        refine lv_topi (fun x32 e33 => ?_)
                        have t34 : x32.toInt = x29.toInt + y6_20.toInt := by rw [e33]; exact hw_add rfl rfl (by omega) (by omega)
                        refine lv_iload hx hb dX12_film_82 (lv_at hl 1 rfl) ?_
                        refine lv_iload hx hb dX12_film_84 (lv_at hl 0 rfl) ?_
                        refine lv_ishr hx hb dX12_film_86 ?_
                        refine lv_topi (fun x35 e36 => ?_)
                        refine lv_iconst (v := 1) hx hb dX12_film_87 (by decide) ?_
                        refine lv_iand hx hb dX12_film_88 ?_
                        refine lv_topi (fun x37 e38 => ?_)
                        have t39 : 0 ≤ x37.toInt ∧ x37.toInt ≤ 1 := by rw [e38]; exact hw_and (by first | decide | omega)
                        refine lv_i2l hx hb dX12_film_89 rfl ?_
                        refine lv_topl (fun x40 e41 => ?_)
                        have t42 : x40.toInt = x37.toInt := by rw [e41]; exact hw_i2l _
                        obtain ⟨f43, v44⟩ := hH.a83 (hw_RM_43 Rm)
                        refine hw_last hx hb hK hH v44 (hw_in (by omega) (by omega)) (fun _ => by rw [(hw_RM_43 Rm)]; exact ⟨_, rfl⟩) hS (hw_AWi (hw_RM_43 Rm) (by decide)) dX12_film_90 (fun H locs hH v44 oq hz hS => ?_)
                        have vm := va_at.kept vm (oq _ (hw_ne G0 (hw_RM_43 Rm) (by decide)))
                        have vla := va_at.kept vla (oq _ (hw_ne (hw_RM_41 Rm) (hw_RM_43 Rm) (by decide)))
                        have vsz := va_at.kept vsz (oq _ (hw_ne (hw_RM_42 Rm) (hw_RM_43 Rm) (by decide)))
                        obtain ⟨x46, e47⟩ : ∃ y : Int32, y = y6_20 + 1 := ⟨_, rfl⟩
                        refine lv_iinc (v := x46) (lv' := [(6, .int x46), (5, .int x19), (4, .int 0), (0, .ref h0), (1, .int p1), (2, .int p2), (3, .int p3)]) hx hb dX12_film_91 hl (k := 0) rfl (by rw [e47]; rfl) (by decide) rfl (fun ls hl => ?_)
                        have t48 : x46.toInt = y6_20.toInt + 1 := by rw [e47]; exact hw_add rfl rfl (by omega) (by omega)
                        refine lv_goto (tgt := 60) hx hb dX12_film_94 (by decide) ?_
                        exact ih60 x46 (by first | omega | omega) ⟨by first | decide | omega, by first | decide | omega⟩ _ _ hH vm vla vsz hS _ (lv_sub hl [0, 1, 2, 3, 4, 5, 6] rfl)
                  exact L60 _ 0 (Nat.lt_succ_self _) ⟨by first | decide | omega, by first | decide | omega⟩ _ _ hH vm vla vsz hS _ (lv_sub hl [0, 1, 2, 3, 4, 5, 6] rfl)
                · exact absurd c18 (by decide)
              · refine lv_if_ne (tgt := 50) hx hb dX12_film_44 (by decide) (fun c49 => ?_) (fun c49 => ?_)
                · exact absurd c49 (by decide)
                · refine lv_bipush (v := (-13)) hx hb dX12_film_47 (by decide) ?_
                  exact hw_iretM (v := (-13)) hx hb hr hlocks hQ hS rfl (⟨(-13), rfl, hH, vm, vla, vsz, (by first | rfl | trivial | assumption | omega | (intros; first | rfl | assumption | omega | (exfalso; omega)))⟩) dX12_film_49
            · exact absurd c15 (by decide)
        · exact absurd c6 (by decide)
      · refine lv_if_ne (tgt := 18) hx hb dX12_film_12 (by decide) (fun c50 => ?_) (fun c50 => ?_)
        · exact absurd c50 (by decide)
        · refine lv_bipush (v := (-2)) hx hb dX12_film_15 (by decide) ?_
          exact hw_iretM (v := (-2)) hx hb hr hlocks hQ hS rfl (⟨(-2), rfl, hH, vm, vla, vsz, (by first | rfl | trivial | assumption | omega | (intros; first | rfl | assumption | omega | (exfalso; omega)))⟩) dX12_film_17
  · refine lv_if_eq (tgt := 15) hx hb dX12_film_5 (by decide) (fun c51 => ?_) (fun c51 => ?_)
    · refine lv_bipush (v := (-2)) hx hb dX12_film_15 (by decide) ?_
      exact hw_iretM (v := (-2)) hx hb hr hlocks hQ hS rfl (⟨(-2), rfl, hH, vm, vla, vsz, (by first | rfl | trivial | assumption | omega | (intros; first | rfl | assumption | omega | (exfalso; omega)))⟩) dX12_film_17
    · exact absurd c51 (by decide)

set_option maxHeartbeats 4000000 in
set_option maxRecDepth 100000 in
theorem k_X12_brokenOnes (l : Launch) (D : hw_D) (G : Nat → Nat) (h0 : Nat) (sz : Nat) (rm : Nat → Nat) (ud_m ky_m lo_m wk_m dk_m ln_m sm_m fi_m be_m rk_m rl_m rw_m cl_m dg_m : Int32) (G0 : G h0 = 9) (Rm : hw_RM G rm) (gud_m : 0 ≤ ud_m.toInt ∧ ud_m.toInt ≤ 8) (gky_m : 0 ≤ ky_m.toInt ∧ ky_m.toInt ≤ 7) (glo_m : 0 ≤ lo_m.toInt ∧ lo_m.toInt ≤ 7) (gwk_m : 0 ≤ wk_m.toInt ∧ wk_m.toInt ≤ 3) (gln_m : 0 ≤ ln_m.toInt ∧ ln_m.toInt ≤ 200) (gsm_m : 0 ≤ sm_m.toInt ∧ sm_m.toInt ≤ 6) (gfi_m : 0 ≤ fi_m.toInt ∧ fi_m.toInt ≤ 200) (gbe_m : 0 ≤ be_m.toInt ∧ be_m.toInt ≤ 200) (grk_m : 0 ≤ rk_m.toInt ∧ rk_m.toInt ≤ 7) (grl_m : 0 ≤ rl_m.toInt ∧ rl_m.toInt ≤ 7) (grw_m : 0 ≤ rw_m.toInt ∧ rw_m.toInt ≤ 3) (gdg_m : 0 ≤ dg_m.toInt ∧ dg_m.toInt ≤ 1) : Met l yX12_brokenOnes wsX12_brokenOnes ({ frames := 1, cells := 0, slots := 0, locals := 21 } : Room) (hw_PC D G [.ref h0] sz (fun H => va_at D.1 vwCl (h0, .inr (11, hw_LM rm ud_m ky_m lo_m wk_m dk_m ln_m sm_m fi_m be_m rk_m rl_m rw_m cl_m dg_m)) H)) (hw_QR (fun v => ∃ (r : Int32), v = .int r ∧ (ky_m.toInt = 0 → r.toInt = 0))) 0 0 (fun _ => False) := by
  refine hw_met (cc := cX12_brokenOnes) (maxL := 3) (ret := (some .int)) (plainFor_of_name (by decide)) rfl (Nat.le_of_ble_eq_true rfl) ?_
  intro p e s m args below meth c QQ ls hsz hx hb hml hr hts hown hlocks hnm hH hK hST hF hQ hl
  subst hsz
  have hS : va_S (hw_AW G [] s.heap.size) s.heap s.heap [] := va_S.rf
  have vm := hF
  have hl : lv_has ls 3 [(0, .ref h0)] := hl
  have u_11 : ∀ w ∈ u_ws RX12 TX12 45, w.before args s = true := fun w hw => hts w ((by decide +kernel : ∀ w ∈ u_ws RX12 TX12 45, w ∈ wsX12_brokenOnes) w hw)
  have fg_142_11 : hw_FG s args m 142 11 3 := ⟨RX12, "WardWalkersModel", RX12, TX12, 45, u_11, hown, rfl, by decide, (hts (.fieldLink RX12 142 "WardWalkersModel" "keys" "I") (by decide +kernel)), (fun _ h9 => h9)⟩
  refine lv_iconst (v := 0) hx hb dX12_brokenOnes_0 (by decide) ?_
  refine lv_istore_n (lv' := [(1, .int 0), (0, .ref h0)]) hx hb dX12_brokenOnes_1 rfl hl (by decide) rfl (fun ls hl => ?_)
  refine lv_iconst (v := 0) hx hb dX12_brokenOnes_2 (by decide) ?_
  refine lv_istore_n (lv' := [(2, .int 0), (1, .int 0), (0, .ref h0)]) hx hb dX12_brokenOnes_3 rfl hl (by decide) rfl (fun ls hl => ?_)
  have L4 : ∀ (n4 : Nat) (y2_1 : Int32) (y1_2 : Int32) (hm : (7 - y2_1.toInt).toNat < n4) (g3 : 0 ≤ y2_1.toInt ∧ y2_1.toInt ≤ 7) (inv4_0 : ky_m.toInt = 0 → y1_2.toInt = 0) (ls : Array Slot) (hl : lv_has ls 3 [(2, .int y2_1), (1, .int y1_2), (0, .ref h0)]), W p l e ({ frames := 1, cells := 0, slots := 0, locals := 21 } : Room) s m args below meth c s.heap [] 0 0 QQ (F0 m 4 ls []) := by
    intro n4
    induction n4 with
    | zero => intro y2_1 y1_2 hm; exact absurd hm (Nat.not_lt_zero _)
    | succ n4 ih4 =>
      intro y2_1 y1_2 hm g3 inv4_0 ls hl
      refine lv_iload_n hx hb dX12_brokenOnes_4 rfl (lv_at hl 0 rfl) ?_
      refine lv_aload_n hx hb dX12_brokenOnes_5 rfl (lv_at hl 2 rfl) ?_
      refine hw_get hx hb fg_142_11 hK vm rfl dX12_brokenOnes_6 ?_
      refine lv_icmp_ge (tgt := 36) hx hb dX12_brokenOnes_9 (by decide) (fun c5 => ?_) (fun c5 => ?_)
      · have b6 : ky_m.toInt ≤ y2_1.toInt := hw_ile c5
        refine lv_iload_n hx hb dX12_brokenOnes_36 rfl (lv_at hl 1 rfl) ?_
        exact hw_iretR (v := y1_2) hx hb hr hlocks hQ rfl (⟨y1_2, rfl, (by first | rfl | trivial | assumption | omega | (intros; first | rfl | assumption | omega | (exfalso; omega)))⟩) dX12_brokenOnes_37
      · have b7 : y2_1.toInt < ky_m.toInt := hw_inle c5
        refine lv_iload_n hx hb dX12_brokenOnes_12 rfl (lv_at hl 1 rfl) ?_
        refine lv_aload_n hx hb dX12_brokenOnes_13 rfl (lv_at hl 2 rfl) ?_
        refine lv_iload_n hx hb dX12_brokenOnes_14 rfl (lv_at hl 0 rfl) ?_
        refine hw_cR (va_runV (As := [.int y2_1]) (rest := [.int y1_2]) ⟨hx, hb, hml, hown, hts⟩ (k_X12_isBroken l D G h0 y2_1 _ G0 (by first | assumption | decide | omega)) (cwV 1 hts gX12_brokenOnes_X12_isBroken rfl rfl rfl (by decide +kernel) ⟨Nat.le_of_ble_eq_true rfl, Nat.le_of_ble_eq_true rfl⟩) (hw_pV (hw_rc (q := (RX12, TX12, 45)) hK vm rfl) hH hK hST hS (by decide) (fun _ h => Or.inl h) trivial) rfl rfl hl.1 rfl (lv_room (Nat.le_of_ble_eq_true rfl)) dX12_brokenOnes_15 ⟨Nat.le_of_ble_eq_true rfl, Nat.le_of_ble_eq_true rfl⟩) (fun v hp => ?_)
        rcases hp with rfl | rfl
        · refine lv_if_eq (tgt := 27) hx hb dX12_brokenOnes_18 (by decide) (fun c8 => ?_) (fun c8 => ?_)
          · exact absurd c8 (by decide)
          · refine lv_iconst (v := 1) hx hb dX12_brokenOnes_21 (by decide) ?_
            refine lv_iload_n hx hb dX12_brokenOnes_22 rfl (lv_at hl 0 rfl) ?_
            refine lv_ishl hx hb dX12_brokenOnes_23 ?_
            refine lv_topi (fun x9 e10 => ?_)
            have t11 : 1 ≤ x9.toInt ∧ x9.toInt ≤ 64 := by rw [e10]; exact hw_sh1b 6 (by decide) (by first | decide | omega) (by first | decide | omega)
            refine lv_goto (tgt := 28) hx hb dX12_brokenOnes_24 (by decide) ?_
            refine lv_ior hx hb dX12_brokenOnes_28 ?_
            refine lv_topi (fun x12 e13 => ?_)
            refine lv_istore_n (lv' := [(1, .int x12), (2, .int y2_1), (0, .ref h0)]) hx hb dX12_brokenOnes_29 rfl hl (by decide) rfl (fun ls hl => ?_)
            obtain ⟨x14, e15⟩ : ∃ y : Int32, y = y2_1 + 1 := ⟨_, rfl⟩
            refine lv_iinc (v := x14) (lv' := [(2, .int x14), (1, .int x12), (0, .ref h0)]) hx hb dX12_brokenOnes_30 hl (k := 1) rfl (by rw [e15]; rfl) (by decide) rfl (fun ls hl => ?_)
            have t16 : x14.toInt = y2_1.toInt + 1 := by rw [e15]; exact hw_add rfl rfl (by omega) (by omega)
            refine lv_goto (tgt := 4) hx hb dX12_brokenOnes_33 (by decide) ?_
            exact ih4 x14 x12 (by first | omega | omega) ⟨by first | decide | omega, by first | decide | omega⟩ (by first | assumption | omega | decide | rfl | (intros; first | rfl | assumption | omega)) _ (lv_sub hl [0, 1, 2] rfl)
        · refine lv_if_eq (tgt := 27) hx hb dX12_brokenOnes_18 (by decide) (fun c17 => ?_) (fun c17 => ?_)
          · refine lv_iconst (v := 0) hx hb dX12_brokenOnes_27 (by decide) ?_
            refine lv_ior hx hb dX12_brokenOnes_28 ?_
            refine lv_topi (fun x18 e19 => ?_)
            refine lv_istore_n (lv' := [(1, .int x18), (2, .int y2_1), (0, .ref h0)]) hx hb dX12_brokenOnes_29 rfl hl (by decide) rfl (fun ls hl => ?_)
            obtain ⟨x20, e21⟩ : ∃ y : Int32, y = y2_1 + 1 := ⟨_, rfl⟩
            refine lv_iinc (v := x20) (lv' := [(2, .int x20), (1, .int x18), (0, .ref h0)]) hx hb dX12_brokenOnes_30 hl (k := 1) rfl (by rw [e21]; rfl) (by decide) rfl (fun ls hl => ?_)
            have t22 : x20.toInt = y2_1.toInt + 1 := by rw [e21]; exact hw_add rfl rfl (by omega) (by omega)
            refine lv_goto (tgt := 4) hx hb dX12_brokenOnes_33 (by decide) ?_
            exact ih4 x20 x18 (by first | omega | omega) ⟨by first | decide | omega, by first | decide | omega⟩ (by first | assumption | omega | decide | rfl | (intros; first | rfl | assumption | omega)) _ (lv_sub hl [0, 1, 2] rfl)
          · exact absurd c17 (by decide)
  exact L4 _ 0 0 (Nat.lt_succ_self _) ⟨by first | decide | omega, by first | decide | omega⟩ (by first | assumption | omega | decide | rfl | (intros; first | rfl | assumption | omega)) _ (lv_sub hl [0, 1, 2] rfl)

set_option maxHeartbeats 4000000 in
set_option maxRecDepth 100000 in
theorem k_X12_latest (l : Launch) (D : hw_D) (G : Nat → Nat) (h0 : Nat) (sz : Nat) (rm : Nat → Nat) (ud_m ky_m lo_m wk_m dk_m ln_m sm_m fi_m be_m rk_m rl_m rw_m cl_m dg_m : Int32) (G0 : G h0 = 9) (Rm : hw_RM G rm) (gud_m : 0 ≤ ud_m.toInt ∧ ud_m.toInt ≤ 8) (gky_m : 0 ≤ ky_m.toInt ∧ ky_m.toInt ≤ 7) (glo_m : 0 ≤ lo_m.toInt ∧ lo_m.toInt ≤ 7) (gwk_m : 0 ≤ wk_m.toInt ∧ wk_m.toInt ≤ 3) (gln_m : 0 ≤ ln_m.toInt ∧ ln_m.toInt ≤ 200) (gsm_m : 0 ≤ sm_m.toInt ∧ sm_m.toInt ≤ 6) (gfi_m : 0 ≤ fi_m.toInt ∧ fi_m.toInt ≤ 200) (gbe_m : 0 ≤ be_m.toInt ∧ be_m.toInt ≤ 200) (grk_m : 0 ≤ rk_m.toInt ∧ rk_m.toInt ≤ 7) (grl_m : 0 ≤ rl_m.toInt ∧ rl_m.toInt ≤ 7) (grw_m : 0 ≤ rw_m.toInt ∧ rw_m.toInt ≤ 3) (gdg_m : 0 ≤ dg_m.toInt ∧ dg_m.toInt ≤ 1) : Met l yX12_latest wsX12_latest ({ frames := 0, cells := 0, slots := 0, locals := 0 } : Room) (hw_PC D G [.ref h0] sz (fun H => va_at D.1 vwCl (h0, .inr (11, hw_LM rm ud_m ky_m lo_m wk_m dk_m ln_m sm_m fi_m be_m rk_m rl_m rw_m cl_m dg_m)) H)) (hw_QR (fun v => ∃ (r : Int32), v = .int r ∧ (wk_m.toInt = 0 → r.toInt = 0))) 0 0 (fun _ => False) := by
  refine hw_met (cc := cX12_latest) (maxL := 3) (ret := (some .int)) (plainFor_of_name (by decide)) rfl (Nat.le_of_ble_eq_true rfl) ?_
  intro p e s m args below meth c QQ ls hsz hx hb hml hr hts hown hlocks hnm hH hK hST hF hQ hl
  subst hsz
  have hS : va_S (hw_AW G [] s.heap.size) s.heap s.heap [] := va_S.rf
  have vm := hF
  have hl : lv_has ls 3 [(0, .ref h0)] := hl
  have u_11 : ∀ w ∈ u_ws RX12 TX12 45, w.before args s = true := fun w hw => hts w ((by decide +kernel : ∀ w ∈ u_ws RX12 TX12 45, w ∈ wsX12_latest) w hw)
  have fg_148_11 : hw_FG s args m 148 11 12 := ⟨RX12, "WardWalkersModel", RX12, TX12, 45, u_11, hown, rfl, by decide, (hts (.fieldLink RX12 148 "WardWalkersModel" "walkers" "I") (by decide +kernel)), (fun _ h9 => h9)⟩
  have fg_7_11 : hw_FG s args m 7 11 0 := ⟨RX12, "WardWalkersModel", RX12, TX12, 45, u_11, hown, rfl, by decide, (hts (.fieldLink RX12 7 "WardWalkersModel" "row" "[I") (by decide +kernel)), (fun _ h9 => h9)⟩
  refine lv_iconst (v := 0) hx hb dX12_latest_0 (by decide) ?_
  refine lv_istore_n (lv' := [(1, .int 0), (0, .ref h0)]) hx hb dX12_latest_1 rfl hl (by decide) rfl (fun ls hl => ?_)
  refine lv_iconst (v := 0) hx hb dX12_latest_2 (by decide) ?_
  refine lv_istore_n (lv' := [(2, .int 0), (1, .int 0), (0, .ref h0)]) hx hb dX12_latest_3 rfl hl (by decide) rfl (fun ls hl => ?_)
  have L4 : ∀ (n4 : Nat) (y2_1 : Int32) (y1_2 : Int32) (hm : (3 - y2_1.toInt).toNat < n4) (g3 : 0 ≤ y2_1.toInt ∧ y2_1.toInt ≤ 3) (inv4_0 : wk_m.toInt = 0 → y1_2.toInt = 0) (ls : Array Slot) (hl : lv_has ls 3 [(2, .int y2_1), (1, .int y1_2), (0, .ref h0)]), W p l e ({ frames := 0, cells := 0, slots := 0, locals := 0 } : Room) s m args below meth c s.heap [] 0 0 QQ (F0 m 4 ls []) := by
    intro n4
    induction n4 with
    | zero => intro y2_1 y1_2 hm; exact absurd hm (Nat.not_lt_zero _)
    | succ n4 ih4 =>
      intro y2_1 y1_2 hm g3 inv4_0 ls hl
      refine lv_iload_n hx hb dX12_latest_4 rfl (lv_at hl 0 rfl) ?_
      refine lv_aload_n hx hb dX12_latest_5 rfl (lv_at hl 2 rfl) ?_
      refine hw_get hx hb fg_148_11 hK vm rfl dX12_latest_6 ?_
      refine lv_icmp_ge (tgt := 45) hx hb dX12_latest_9 (by decide) (fun c5 => ?_) (fun c5 => ?_)
      · have b6 : wk_m.toInt ≤ y2_1.toInt := hw_ile c5
        refine lv_iload_n hx hb dX12_latest_45 rfl (lv_at hl 1 rfl) ?_
        exact hw_iretR (v := y1_2) hx hb hr hlocks hQ rfl (⟨y1_2, rfl, (by first | rfl | trivial | assumption | omega | (intros; first | rfl | assumption | omega | (exfalso; omega)))⟩) dX12_latest_46
      · have b7 : y2_1.toInt < wk_m.toInt := hw_inle c5
        refine lv_aload_n hx hb dX12_latest_12 rfl (lv_at hl 2 rfl) ?_
        refine hw_get hx hb fg_7_11 hK vm rfl dX12_latest_13 ?_
        refine lv_bipush (v := 20) hx hb dX12_latest_16 (by decide) ?_
        refine lv_iload_n hx hb dX12_latest_18 rfl (lv_at hl 0 rfl) ?_
        refine lv_iadd hx hb dX12_latest_19 ?_
        refine lv_topi (fun x8 e9 => ?_)
        have t10 : x8.toInt = 20 + y2_1.toInt := by rw [e9]; exact hw_add rfl rfl (by omega) (by omega)
        obtain ⟨f11, v12⟩ := hH.a40 (hw_RM_0 Rm)
        refine hw_iald hx hb hK v12 (hw_in (by omega) (by omega)) dX12_latest_20 ?_
        refine lv_topi (fun x14 e15 => ?_)
        refine lv_iload_n hx hb dX12_latest_21 rfl (lv_at hl 1 rfl) ?_
        refine lv_icmp_le (tgt := 37) hx hb dX12_latest_22 (by decide) (fun c16 => ?_) (fun c16 => ?_)
        · have b17 : x14.toInt ≤ y1_2.toInt := hw_ile c16
          refine lv_iload_n hx hb dX12_latest_37 rfl (lv_at hl 1 rfl) ?_
          refine lv_istore_n (lv' := [(1, .int y1_2), (2, .int y2_1), (0, .ref h0)]) hx hb dX12_latest_38 rfl hl (by decide) rfl (fun ls hl => ?_)
          obtain ⟨x18, e19⟩ : ∃ y : Int32, y = y2_1 + 1 := ⟨_, rfl⟩
          refine lv_iinc (v := x18) (lv' := [(2, .int x18), (1, .int y1_2), (0, .ref h0)]) hx hb dX12_latest_39 hl (k := 1) rfl (by rw [e19]; rfl) (by decide) rfl (fun ls hl => ?_)
          have t20 : x18.toInt = y2_1.toInt + 1 := by rw [e19]; exact hw_add rfl rfl (by omega) (by omega)
          refine lv_goto (tgt := 4) hx hb dX12_latest_42 (by decide) ?_
          exact ih4 x18 y1_2 (by first | omega | omega) ⟨by first | decide | omega, by first | decide | omega⟩ (by first | assumption | omega | decide | rfl | (intros; first | rfl | assumption | omega)) _ (lv_sub hl [0, 1, 2] rfl)
        · have b21 : y1_2.toInt < x14.toInt := hw_inle c16
          refine lv_aload_n hx hb dX12_latest_25 rfl (lv_at hl 2 rfl) ?_
          refine hw_get hx hb fg_7_11 hK vm rfl dX12_latest_26 ?_
          refine lv_bipush (v := 20) hx hb dX12_latest_29 (by decide) ?_
          refine lv_iload_n hx hb dX12_latest_31 rfl (lv_at hl 0 rfl) ?_
          refine lv_iadd hx hb dX12_latest_32 ?_
          refine lv_topi (fun x22 e23 => ?_)
          have t24 : x22.toInt = 20 + y2_1.toInt := by rw [e23]; exact hw_add rfl rfl (by omega) (by omega)
          obtain ⟨f25, v26⟩ := hH.a40 (hw_RM_0 Rm)
          refine hw_iald hx hb hK v26 (hw_in (by omega) (by omega)) dX12_latest_33 ?_
          refine lv_topi (fun x28 e29 => ?_)
          refine lv_goto (tgt := 38) hx hb dX12_latest_34 (by decide) ?_
          refine lv_istore_n (lv' := [(1, .int x28), (2, .int y2_1), (0, .ref h0)]) hx hb dX12_latest_38 rfl hl (by decide) rfl (fun ls hl => ?_)
          obtain ⟨x30, e31⟩ : ∃ y : Int32, y = y2_1 + 1 := ⟨_, rfl⟩
          refine lv_iinc (v := x30) (lv' := [(2, .int x30), (1, .int x28), (0, .ref h0)]) hx hb dX12_latest_39 hl (k := 1) rfl (by rw [e31]; rfl) (by decide) rfl (fun ls hl => ?_)
          have t32 : x30.toInt = y2_1.toInt + 1 := by rw [e31]; exact hw_add rfl rfl (by omega) (by omega)
          refine lv_goto (tgt := 4) hx hb dX12_latest_42 (by decide) ?_
          exact ih4 x30 x28 (by first | omega | omega) ⟨by first | decide | omega, by first | decide | omega⟩ (by first | assumption | omega | decide | rfl | (intros; first | rfl | assumption | omega)) _ (lv_sub hl [0, 1, 2] rfl)
  exact L4 _ 0 0 (Nat.lt_succ_self _) ⟨by first | decide | omega, by first | decide | omega⟩ (by first | assumption | omega | decide | rfl | (intros; first | rfl | assumption | omega)) _ (lv_sub hl [0, 1, 2] rfl)

set_option maxHeartbeats 4000000 in
set_option maxRecDepth 100000 in
theorem k_X12_racks (l : Launch) (D : hw_D) (G : Nat → Nat) (h0 : Nat) (sz : Nat) (rm : Nat → Nat) (ud_m ky_m lo_m wk_m dk_m ln_m sm_m fi_m be_m rk_m rl_m rw_m cl_m dg_m : Int32) (fsz : Nat → Int32) (G0 : G h0 = 9) (Rm : hw_RM G rm) (gud_m : 0 ≤ ud_m.toInt ∧ ud_m.toInt ≤ 8) (gky_m : 0 ≤ ky_m.toInt ∧ ky_m.toInt ≤ 7) (glo_m : 0 ≤ lo_m.toInt ∧ lo_m.toInt ≤ 7) (gwk_m : 0 ≤ wk_m.toInt ∧ wk_m.toInt ≤ 3) (gln_m : 0 ≤ ln_m.toInt ∧ ln_m.toInt ≤ 200) (gsm_m : 0 ≤ sm_m.toInt ∧ sm_m.toInt ≤ 6) (gfi_m : 0 ≤ fi_m.toInt ∧ fi_m.toInt ≤ 200) (gbe_m : 0 ≤ be_m.toInt ∧ be_m.toInt ≤ 200) (grk_m : 0 ≤ rk_m.toInt ∧ rk_m.toInt ≤ 7) (grl_m : 0 ≤ rl_m.toInt ∧ rl_m.toInt ≤ 7) (grw_m : 0 ≤ rw_m.toInt ∧ rw_m.toInt ≤ 3) (gdg_m : 0 ≤ dg_m.toInt ∧ dg_m.toInt ≤ 1) (qsz : ∀ j, j < 4 → (-1) ≤ (fsz j).toInt ∧ (fsz j).toInt ≤ 24) : Met l yX12_racks wsX12_racks ({ frames := 0, cells := 0, slots := 0, locals := 0 } : Room) (hw_PC D G [.ref h0] sz (fun H => va_at D.1 vwCl (h0, .inr (11, hw_LM rm ud_m ky_m lo_m wk_m dk_m ln_m sm_m fi_m be_m rk_m rl_m rw_m cl_m dg_m)) H ∧ va_at D.1 vwCl ((rm 42), .inl (D.2.1 0, 4, .inl fsz)) H)) (hw_QR (fun v => ∃ (r : Int32), v = .int r ∧ ((∀ j, j < 4 → fsz j = -1) → r.toInt = 0))) 0 0 (fun _ => False) := by
  refine hw_met (cc := cX12_racks) (maxL := 3) (ret := (some .int)) (plainFor_of_name (by decide)) rfl (Nat.le_of_ble_eq_true rfl) ?_
  intro p e s m args below meth c QQ ls hsz hx hb hml hr hts hown hlocks hnm hH hK hST hF hQ hl
  subst hsz
  have hS : va_S (hw_AW G [] s.heap.size) s.heap s.heap [] := va_S.rf
  obtain ⟨vm, vsz⟩ := hF
  have hl : lv_has ls 3 [(0, .ref h0)] := hl
  have u_11 : ∀ w ∈ u_ws RX12 TX12 45, w.before args s = true := fun w hw => hts w ((by decide +kernel : ∀ w ∈ u_ws RX12 TX12 45, w ∈ wsX12_racks) w hw)
  have fg_99_11 : hw_FG s args m 99 11 42 := ⟨RX12, "WardWalkersModel", RX12, TX12, 45, u_11, hown, rfl, by decide, (hts (.fieldLink RX12 99 "WardWalkersModel" "sizes" "[I") (by decide +kernel)), (fun _ h9 => h9)⟩
  refine lv_iconst (v := 0) hx hb dX12_racks_0 (by decide) ?_
  refine lv_istore_n (lv' := [(1, .int 0), (0, .ref h0)]) hx hb dX12_racks_1 rfl hl (by decide) rfl (fun ls hl => ?_)
  refine lv_iconst (v := 0) hx hb dX12_racks_2 (by decide) ?_
  refine lv_istore_n (lv' := [(2, .int 0), (1, .int 0), (0, .ref h0)]) hx hb dX12_racks_3 rfl hl (by decide) rfl (fun ls hl => ?_)
  have L4 : ∀ (n5 : Nat) (y2_1 : Int32) (y1_2 : Int32) (hm : (4 - y2_1.toInt).toNat < n5) (g3 : 0 ≤ y1_2.toInt ∧ y1_2.toInt ≤ 4) (g4 : 0 ≤ y2_1.toInt ∧ y2_1.toInt ≤ 4) (inv4_0 : (∀ j, j < 4 → fsz j = -1) → y1_2.toInt = 0) (inv4_1 : y1_2.toInt ≤ y2_1.toInt) (ls : Array Slot) (hl : lv_has ls 3 [(2, .int y2_1), (1, .int y1_2), (0, .ref h0)]), W p l e ({ frames := 0, cells := 0, slots := 0, locals := 0 } : Room) s m args below meth c s.heap [] 0 0 QQ (F0 m 4 ls []) := by
    intro n5
    induction n5 with
    | zero => intro y2_1 y1_2 hm; exact absurd hm (Nat.not_lt_zero _)
    | succ n5 ih4 =>
      intro y2_1 y1_2 hm g3 g4 inv4_0 inv4_1 ls hl
      refine lv_iload_n hx hb dX12_racks_4 rfl (lv_at hl 0 rfl) ?_
      refine lv_iconst (v := 4) hx hb dX12_racks_5 (by decide) ?_
      refine lv_icmp_ge (tgt := 32) hx hb dX12_racks_6 (by decide) (fun c6 => ?_) (fun c6 => ?_)
      · have b7 : 4 ≤ y2_1.toInt := hw_ile c6
        refine lv_iload_n hx hb dX12_racks_32 rfl (lv_at hl 1 rfl) ?_
        exact hw_iretR (v := y1_2) hx hb hr hlocks hQ rfl (⟨y1_2, rfl, (by first | rfl | trivial | assumption | omega | (intros; first | rfl | assumption | omega | (exfalso; omega)))⟩) dX12_racks_33
      · have b8 : y2_1.toInt < 4 := hw_inle c6
        refine lv_iload_n hx hb dX12_racks_9 rfl (lv_at hl 1 rfl) ?_
        refine lv_aload_n hx hb dX12_racks_10 rfl (lv_at hl 2 rfl) ?_
        refine hw_get hx hb fg_99_11 hK vm rfl dX12_racks_11 ?_
        refine lv_iload_n hx hb dX12_racks_14 rfl (lv_at hl 0 rfl) ?_
        refine hw_iald hx hb hK vsz (hw_in (by omega) (by omega)) dX12_racks_15 ?_
        refine lv_topi (fun x9 e10 => ?_)
        have n12 : vp_in y2_1 4 := (hw_in (by omega) (by omega))
        have t11 : (-1) ≤ x9.toInt ∧ x9.toInt ≤ 24 := by rw [e10]; exact qsz _ (Nat.not_le.mp fun q => n12 (Or.inr q))
        have hsz : (∀ j, j < 4 → fsz j = -1) → x9.toInt = -1 := fun h9 => by rw [e10, h9 _ (by show (_ : Int32).toInt.toNat < 4; omega)]; rfl
        refine lv_if_ge (tgt := 23) hx hb dX12_racks_16 (by decide) (fun c13 => ?_) (fun c13 => ?_)
        · have b14 : 0 ≤ x9.toInt := hw_ile c13
          refine lv_iconst (v := 1) hx hb dX12_racks_23 (by decide) ?_
          refine lv_iadd hx hb dX12_racks_24 ?_
          refine lv_topi (fun x15 e16 => ?_)
          have t17 : x15.toInt = y1_2.toInt + 1 := by rw [e16]; exact hw_add rfl rfl (by omega) (by omega)
          refine lv_istore_n (lv' := [(1, .int x15), (2, .int y2_1), (0, .ref h0)]) hx hb dX12_racks_25 rfl hl (by decide) rfl (fun ls hl => ?_)
          obtain ⟨x18, e19⟩ : ∃ y : Int32, y = y2_1 + 1 := ⟨_, rfl⟩
          refine lv_iinc (v := x18) (lv' := [(2, .int x18), (1, .int x15), (0, .ref h0)]) hx hb dX12_racks_26 hl (k := 1) rfl (by rw [e19]; rfl) (by decide) rfl (fun ls hl => ?_)
          have t20 : x18.toInt = y2_1.toInt + 1 := by rw [e19]; exact hw_add rfl rfl (by omega) (by omega)
          refine lv_goto (tgt := 4) hx hb dX12_racks_29 (by decide) ?_
          exact ih4 x18 x15 (by first | omega | omega) ⟨by first | decide | omega, by first | decide | omega⟩ ⟨by first | decide | omega, by first | decide | omega⟩ (by intro h9; have h8 := hsz h9; have h7 := inv4_0 h9; first | (exfalso; omega) | omega) (by first | assumption | omega | decide | rfl | (intros; first | rfl | assumption | omega)) _ (lv_sub hl [0, 1, 2] rfl)
        · have b21 : x9.toInt < 0 := hw_inle c13
          refine lv_iconst (v := 0) hx hb dX12_racks_19 (by decide) ?_
          refine lv_goto (tgt := 24) hx hb dX12_racks_20 (by decide) ?_
          refine lv_iadd hx hb dX12_racks_24 ?_
          refine lv_topi (fun x22 e23 => ?_)
          have t24 : x22.toInt = y1_2.toInt + 0 := by rw [e23]; exact hw_add rfl rfl (by omega) (by omega)
          refine lv_istore_n (lv' := [(1, .int x22), (2, .int y2_1), (0, .ref h0)]) hx hb dX12_racks_25 rfl hl (by decide) rfl (fun ls hl => ?_)
          obtain ⟨x25, e26⟩ : ∃ y : Int32, y = y2_1 + 1 := ⟨_, rfl⟩
          refine lv_iinc (v := x25) (lv' := [(2, .int x25), (1, .int x22), (0, .ref h0)]) hx hb dX12_racks_26 hl (k := 1) rfl (by rw [e26]; rfl) (by decide) rfl (fun ls hl => ?_)
          have t27 : x25.toInt = y2_1.toInt + 1 := by rw [e26]; exact hw_add rfl rfl (by omega) (by omega)
          refine lv_goto (tgt := 4) hx hb dX12_racks_29 (by decide) ?_
          exact ih4 x25 x22 (by first | omega | omega) ⟨by first | decide | omega, by first | decide | omega⟩ ⟨by first | decide | omega, by first | decide | omega⟩ (by intro h9; have h8 := hsz h9; have h7 := inv4_0 h9; first | (exfalso; omega) | omega) (by first | assumption | omega | decide | rfl | (intros; first | rfl | assumption | omega)) _ (lv_sub hl [0, 1, 2] rfl)
  exact L4 _ 0 0 (Nat.lt_succ_self _) ⟨by first | decide | omega, by first | decide | omega⟩ ⟨by first | decide | omega, by first | decide | omega⟩ (by intro _; rfl) (by first | assumption | omega | decide | rfl | (intros; first | rfl | assumption | omega)) _ (lv_sub hl [0, 1, 2] rfl)

set_option maxHeartbeats 4000000 in
set_option maxRecDepth 100000 in
theorem k_X12_count (l : Launch) (D : hw_D) (G : Nat → Nat) (h0 : Nat) (p1 : Int32) (sz : Nat) (rm : Nat → Nat) (ud_m ky_m lo_m wk_m dk_m ln_m sm_m fi_m be_m rk_m rl_m rw_m cl_m dg_m : Int32) (fsz : Nat → Int32) (fro : Nat → Int32) (G0 : G h0 = 9) (Rm : hw_RM G rm) (gud_m : 0 ≤ ud_m.toInt ∧ ud_m.toInt ≤ 8) (gky_m : 0 ≤ ky_m.toInt ∧ ky_m.toInt ≤ 7) (glo_m : 0 ≤ lo_m.toInt ∧ lo_m.toInt ≤ 7) (gwk_m : 0 ≤ wk_m.toInt ∧ wk_m.toInt ≤ 3) (gln_m : 0 ≤ ln_m.toInt ∧ ln_m.toInt ≤ 200) (gsm_m : 0 ≤ sm_m.toInt ∧ sm_m.toInt ≤ 6) (gfi_m : 0 ≤ fi_m.toInt ∧ fi_m.toInt ≤ 200) (gbe_m : 0 ≤ be_m.toInt ∧ be_m.toInt ≤ 200) (grk_m : 0 ≤ rk_m.toInt ∧ rk_m.toInt ≤ 7) (grl_m : 0 ≤ rl_m.toInt ∧ rl_m.toInt ≤ 7) (grw_m : 0 ≤ rw_m.toInt ∧ rw_m.toInt ≤ 3) (gdg_m : 0 ≤ dg_m.toInt ∧ dg_m.toInt ≤ 1) (qsz : ∀ j, j < 4 → (-1) ≤ (fsz j).toInt ∧ (fsz j).toInt ≤ 24) : Met l yX12_count wsX12_count ({ frames := 2, cells := 0, slots := 0, locals := 43 } : Room) (hw_PC D G [.ref h0, .int p1] sz (fun H => va_at D.1 vwCl (h0, .inr (11, hw_LM rm ud_m ky_m lo_m wk_m dk_m ln_m sm_m fi_m be_m rk_m rl_m rw_m cl_m dg_m)) H ∧ va_at D.1 vwCl ((rm 42), .inl (D.2.1 0, 4, .inl fsz)) H ∧ va_at D.1 vwCl ((rm 0), .inl (D.2.1 0, 253, .inl fro)) H)) (hw_QR (fun v => ∃ (r : Int32), v = .int r ∧ ((p1.toInt < 0 ∨ 12 < p1.toInt) → r.toInt = -3) ∧ (p1.toInt = 0 → r.toInt = ky_m.toInt) ∧ (p1.toInt = 1 → r.toInt = lo_m.toInt) ∧ (p1.toInt = 2 → r.toInt = wk_m.toInt) ∧ (p1.toInt = 3 → r.toInt = dk_m.toInt) ∧ (p1.toInt = 4 → r.toInt = (fro 0).toInt) ∧ (p1.toInt = 5 → r.toInt = (fro 2).toInt) ∧ (p1.toInt = 6 → ky_m.toInt = 0 → r.toInt = 0) ∧ (p1.toInt = 7 → r.toInt = (fro 1).toInt) ∧ (p1.toInt = 8 → wk_m.toInt = 0 → r.toInt = 0) ∧ (p1.toInt = 9 → r.toInt = sm_m.toInt) ∧ (p1.toInt = 10 → (∀ j, j < 4 → fsz j = -1) → r.toInt = 0) ∧ (p1.toInt = 11 → r.toInt = ud_m.toInt) ∧ (p1.toInt = 12 → r.toInt = ln_m.toInt))) 0 0 (fun _ => False) := by
  refine hw_met (cc := cX12_count) (maxL := 2) (ret := (some .int)) (plainFor_of_name (by decide)) rfl (Nat.le_of_ble_eq_true rfl) ?_
  intro p e s m args below meth c QQ ls hsz hx hb hml hr hts hown hlocks hnm hH hK hST hF hQ hl
  subst hsz
  have hS : va_S (hw_AW G [] s.heap.size) s.heap s.heap [] := va_S.rf
  obtain ⟨vm, vsz, vro⟩ := hF
  have hl : lv_has ls 2 [(0, .ref h0), (1, .int p1)] := hl
  have u_11 : ∀ w ∈ u_ws RX12 TX12 45, w.before args s = true := fun w hw => hts w ((by decide +kernel : ∀ w ∈ u_ws RX12 TX12 45, w ∈ wsX12_count) w hw)
  have fg_142_11 : hw_FG s args m 142 11 3 := ⟨RX12, "WardWalkersModel", RX12, TX12, 45, u_11, hown, rfl, by decide, (hts (.fieldLink RX12 142 "WardWalkersModel" "keys" "I") (by decide +kernel)), (fun _ h9 => h9)⟩
  have fg_145_11 : hw_FG s args m 145 11 7 := ⟨RX12, "WardWalkersModel", RX12, TX12, 45, u_11, hown, rfl, by decide, (hts (.fieldLink RX12 145 "WardWalkersModel" "locks" "I") (by decide +kernel)), (fun _ h9 => h9)⟩
  have fg_148_11 : hw_FG s args m 148 11 12 := ⟨RX12, "WardWalkersModel", RX12, TX12, 45, u_11, hown, rfl, by decide, (hts (.fieldLink RX12 148 "WardWalkersModel" "walkers" "I") (by decide +kernel)), (fun _ h9 => h9)⟩
  have fg_41_11 : hw_FG s args m 41 11 14 := ⟨RX12, "WardWalkersModel", RX12, TX12, 45, u_11, hown, rfl, by decide, (hts (.fieldLink RX12 41 "WardWalkersModel" "dark" "I") (by decide +kernel)), (fun _ h9 => h9)⟩
  have fg_7_11 : hw_FG s args m 7 11 0 := ⟨RX12, "WardWalkersModel", RX12, TX12, 45, u_11, hown, rfl, by decide, (hts (.fieldLink RX12 7 "WardWalkersModel" "row" "[I") (by decide +kernel)), (fun _ h9 => h9)⟩
  have fg_208_11 : hw_FG s args m 208 11 17 := ⟨RX12, "WardWalkersModel", RX12, TX12, 45, u_11, hown, rfl, by decide, (hts (.fieldLink RX12 208 "WardWalkersModel" "seenMany" "I") (by decide +kernel)), (fun _ h9 => h9)⟩
  have fg_205_11 : hw_FG s args m 205 11 1 := ⟨RX12, "WardWalkersModel", RX12, TX12, 45, u_11, hown, rfl, by decide, (hts (.fieldLink RX12 205 "WardWalkersModel" "undos" "I") (by decide +kernel)), (fun _ h9 => h9)⟩
  have fg_115_11 : hw_FG s args m 115 11 16 := ⟨RX12, "WardWalkersModel", RX12, TX12, 45, u_11, hown, rfl, by decide, (hts (.fieldLink RX12 115 "WardWalkersModel" "length" "I") (by decide +kernel)), (fun _ h9 => h9)⟩
  refine lv_iload_n hx hb dX12_count_0 rfl (lv_at hl 1 rfl) ?_
  by_cases w1 : p1.toInt < 0 ∨ 12 < p1.toInt
  · refine lv_tableOut (tgt := 139) hx hb dX12_count_1 w1 (by decide) ?_
    refine lv_bipush (v := (-3)) hx hb dX12_count_139 (by decide) ?_
    exact hw_iretR (v := (-3)) hx hb hr hlocks hQ rfl (⟨(-3), rfl, (by intros; first | rfl | assumption | omega | (rename_i h8 h9; exact absurd h8 (by omega)) | (exfalso; omega)), (by intros; first | rfl | assumption | omega | (rename_i h8 h9; exact absurd h8 (by omega)) | (exfalso; omega)), (by intros; first | rfl | assumption | omega | (rename_i h8 h9; exact absurd h8 (by omega)) | (exfalso; omega)), (by intros; first | rfl | assumption | omega | (rename_i h8 h9; exact absurd h8 (by omega)) | (exfalso; omega)), (by intros; first | rfl | assumption | omega | (rename_i h8 h9; exact absurd h8 (by omega)) | (exfalso; omega)), (by intro h8; first | (exfalso; omega) | exact hw_ieq None), (by intro h8; first | (exfalso; omega) | exact hw_ieq None), (by intros; first | rfl | assumption | omega | (rename_i h8 h9; exact absurd h8 (by omega)) | (exfalso; omega)), (by intro h8; first | (exfalso; omega) | exact hw_ieq None), (by intros; first | rfl | assumption | omega | (rename_i h8 h9; exact absurd h8 (by omega)) | (exfalso; omega)), (by intros; first | rfl | assumption | omega | (rename_i h8 h9; exact absurd h8 (by omega)) | (exfalso; omega)), (by intro h8 h9; first | (exfalso; omega) | (have h7 : (∀ j, j < 4 → fsz j = -1) → (-3).toInt = 0 := (by assumption); exact h7 h9)), (by intros; first | rfl | assumption | omega | (rename_i h8 h9; exact absurd h8 (by omega)) | (exfalso; omega)), (by intros; first | rfl | assumption | omega | (rename_i h8 h9; exact absurd h8 (by omega)) | (exfalso; omega))⟩) dX12_count_141
  · rcases (show p1.toInt = 0 ∨ p1.toInt = 1 ∨ p1.toInt = 2 ∨ p1.toInt = 3 ∨ p1.toInt = 4 ∨ p1.toInt = 5 ∨ p1.toInt = 6 ∨ p1.toInt = 7 ∨ p1.toInt = 8 ∨ p1.toInt = 9 ∨ p1.toInt = 10 ∨ p1.toInt = 11 ∨ p1.toInt = 12 by omega) with w1 | w1 | w1 | w1 | w1 | w1 | w1 | w1 | w1 | w1 | w1 | w1 | w1
    · refine lv_tableIn (tgt := 68) (off := 67) hx hb dX12_count_1 (by omega) (by omega) (by rw [w1]; rfl) (by decide) ?_
      refine lv_aload_n hx hb dX12_count_68 rfl (lv_at hl 0 rfl) ?_
      refine hw_get hx hb fg_142_11 hK vm rfl dX12_count_69 ?_
      exact hw_iretR (v := ky_m) hx hb hr hlocks hQ rfl (⟨ky_m, rfl, (by intros; first | rfl | assumption | omega | (rename_i h8 h9; exact absurd h8 (by omega)) | (exfalso; omega)), (by intros; first | rfl | assumption | omega | (rename_i h8 h9; exact absurd h8 (by omega)) | (exfalso; omega)), (by intros; first | rfl | assumption | omega | (rename_i h8 h9; exact absurd h8 (by omega)) | (exfalso; omega)), (by intros; first | rfl | assumption | omega | (rename_i h8 h9; exact absurd h8 (by omega)) | (exfalso; omega)), (by intros; first | rfl | assumption | omega | (rename_i h8 h9; exact absurd h8 (by omega)) | (exfalso; omega)), (by intro h8; first | (exfalso; omega) | exact hw_ieq None), (by intro h8; first | (exfalso; omega) | exact hw_ieq None), (by intros; first | rfl | assumption | omega | (rename_i h8 h9; exact absurd h8 (by omega)) | (exfalso; omega)), (by intro h8; first | (exfalso; omega) | exact hw_ieq None), (by intros; first | rfl | assumption | omega | (rename_i h8 h9; exact absurd h8 (by omega)) | (exfalso; omega)), (by intros; first | rfl | assumption | omega | (rename_i h8 h9; exact absurd h8 (by omega)) | (exfalso; omega)), (by intro h8 h9; first | (exfalso; omega) | (have h7 : (∀ j, j < 4 → fsz j = -1) → ky_m.toInt = 0 := (by assumption); exact h7 h9)), (by intros; first | rfl | assumption | omega | (rename_i h8 h9; exact absurd h8 (by omega)) | (exfalso; omega)), (by intros; first | rfl | assumption | omega | (rename_i h8 h9; exact absurd h8 (by omega)) | (exfalso; omega))⟩) dX12_count_72
    · refine lv_tableIn (tgt := 73) (off := 72) hx hb dX12_count_1 (by omega) (by omega) (by rw [w1]; rfl) (by decide) ?_
      refine lv_aload_n hx hb dX12_count_73 rfl (lv_at hl 0 rfl) ?_
      refine hw_get hx hb fg_145_11 hK vm rfl dX12_count_74 ?_
      exact hw_iretR (v := lo_m) hx hb hr hlocks hQ rfl (⟨lo_m, rfl, (by intros; first | rfl | assumption | omega | (rename_i h8 h9; exact absurd h8 (by omega)) | (exfalso; omega)), (by intros; first | rfl | assumption | omega | (rename_i h8 h9; exact absurd h8 (by omega)) | (exfalso; omega)), (by intros; first | rfl | assumption | omega | (rename_i h8 h9; exact absurd h8 (by omega)) | (exfalso; omega)), (by intros; first | rfl | assumption | omega | (rename_i h8 h9; exact absurd h8 (by omega)) | (exfalso; omega)), (by intros; first | rfl | assumption | omega | (rename_i h8 h9; exact absurd h8 (by omega)) | (exfalso; omega)), (by intro h8; first | (exfalso; omega) | exact hw_ieq None), (by intro h8; first | (exfalso; omega) | exact hw_ieq None), (by intros; first | rfl | assumption | omega | (rename_i h8 h9; exact absurd h8 (by omega)) | (exfalso; omega)), (by intro h8; first | (exfalso; omega) | exact hw_ieq None), (by intros; first | rfl | assumption | omega | (rename_i h8 h9; exact absurd h8 (by omega)) | (exfalso; omega)), (by intros; first | rfl | assumption | omega | (rename_i h8 h9; exact absurd h8 (by omega)) | (exfalso; omega)), (by intro h8 h9; first | (exfalso; omega) | (have h7 : (∀ j, j < 4 → fsz j = -1) → lo_m.toInt = 0 := (by assumption); exact h7 h9)), (by intros; first | rfl | assumption | omega | (rename_i h8 h9; exact absurd h8 (by omega)) | (exfalso; omega)), (by intros; first | rfl | assumption | omega | (rename_i h8 h9; exact absurd h8 (by omega)) | (exfalso; omega))⟩) dX12_count_77
    · refine lv_tableIn (tgt := 78) (off := 77) hx hb dX12_count_1 (by omega) (by omega) (by rw [w1]; rfl) (by decide) ?_
      refine lv_aload_n hx hb dX12_count_78 rfl (lv_at hl 0 rfl) ?_
      refine hw_get hx hb fg_148_11 hK vm rfl dX12_count_79 ?_
      exact hw_iretR (v := wk_m) hx hb hr hlocks hQ rfl (⟨wk_m, rfl, (by intros; first | rfl | assumption | omega | (rename_i h8 h9; exact absurd h8 (by omega)) | (exfalso; omega)), (by intros; first | rfl | assumption | omega | (rename_i h8 h9; exact absurd h8 (by omega)) | (exfalso; omega)), (by intros; first | rfl | assumption | omega | (rename_i h8 h9; exact absurd h8 (by omega)) | (exfalso; omega)), (by intros; first | rfl | assumption | omega | (rename_i h8 h9; exact absurd h8 (by omega)) | (exfalso; omega)), (by intros; first | rfl | assumption | omega | (rename_i h8 h9; exact absurd h8 (by omega)) | (exfalso; omega)), (by intro h8; first | (exfalso; omega) | exact hw_ieq None), (by intro h8; first | (exfalso; omega) | exact hw_ieq None), (by intros; first | rfl | assumption | omega | (rename_i h8 h9; exact absurd h8 (by omega)) | (exfalso; omega)), (by intro h8; first | (exfalso; omega) | exact hw_ieq None), (by intros; first | rfl | assumption | omega | (rename_i h8 h9; exact absurd h8 (by omega)) | (exfalso; omega)), (by intros; first | rfl | assumption | omega | (rename_i h8 h9; exact absurd h8 (by omega)) | (exfalso; omega)), (by intro h8 h9; first | (exfalso; omega) | (have h7 : (∀ j, j < 4 → fsz j = -1) → wk_m.toInt = 0 := (by assumption); exact h7 h9)), (by intros; first | rfl | assumption | omega | (rename_i h8 h9; exact absurd h8 (by omega)) | (exfalso; omega)), (by intros; first | rfl | assumption | omega | (rename_i h8 h9; exact absurd h8 (by omega)) | (exfalso; omega))⟩) dX12_count_82
    · refine lv_tableIn (tgt := 83) (off := 82) hx hb dX12_count_1 (by omega) (by omega) (by rw [w1]; rfl) (by decide) ?_
      refine lv_aload_n hx hb dX12_count_83 rfl (lv_at hl 0 rfl) ?_
      refine hw_get hx hb fg_41_11 hK vm rfl dX12_count_84 ?_
      exact hw_iretR (v := dk_m) hx hb hr hlocks hQ rfl (⟨dk_m, rfl, (by intros; first | rfl | assumption | omega | (rename_i h8 h9; exact absurd h8 (by omega)) | (exfalso; omega)), (by intros; first | rfl | assumption | omega | (rename_i h8 h9; exact absurd h8 (by omega)) | (exfalso; omega)), (by intros; first | rfl | assumption | omega | (rename_i h8 h9; exact absurd h8 (by omega)) | (exfalso; omega)), (by intros; first | rfl | assumption | omega | (rename_i h8 h9; exact absurd h8 (by omega)) | (exfalso; omega)), (by intros; first | rfl | assumption | omega | (rename_i h8 h9; exact absurd h8 (by omega)) | (exfalso; omega)), (by intro h8; first | (exfalso; omega) | exact hw_ieq None), (by intro h8; first | (exfalso; omega) | exact hw_ieq None), (by intros; first | rfl | assumption | omega | (rename_i h8 h9; exact absurd h8 (by omega)) | (exfalso; omega)), (by intro h8; first | (exfalso; omega) | exact hw_ieq None), (by intros; first | rfl | assumption | omega | (rename_i h8 h9; exact absurd h8 (by omega)) | (exfalso; omega)), (by intros; first | rfl | assumption | omega | (rename_i h8 h9; exact absurd h8 (by omega)) | (exfalso; omega)), (by intro h8 h9; first | (exfalso; omega) | (have h7 : (∀ j, j < 4 → fsz j = -1) → dk_m.toInt = 0 := (by assumption); exact h7 h9)), (by intros; first | rfl | assumption | omega | (rename_i h8 h9; exact absurd h8 (by omega)) | (exfalso; omega)), (by intros; first | rfl | assumption | omega | (rename_i h8 h9; exact absurd h8 (by omega)) | (exfalso; omega))⟩) dX12_count_87
    · refine lv_tableIn (tgt := 88) (off := 87) hx hb dX12_count_1 (by omega) (by omega) (by rw [w1]; rfl) (by decide) ?_
      refine lv_aload_n hx hb dX12_count_88 rfl (lv_at hl 0 rfl) ?_
      refine hw_get hx hb fg_7_11 hK vm rfl dX12_count_89 ?_
      refine lv_iconst (v := 0) hx hb dX12_count_92 (by decide) ?_
      refine hw_iald hx hb hK vro (hw_in (x := 0) (by decide) (by decide)) dX12_count_93 ?_
      refine lv_topi (fun x2 e3 => ?_)
      exact hw_iretR (v := x2) hx hb hr hlocks hQ rfl (⟨x2, rfl, (by intros; first | rfl | assumption | omega | (rename_i h8 h9; exact absurd h8 (by omega)) | (exfalso; omega)), (by intros; first | rfl | assumption | omega | (rename_i h8 h9; exact absurd h8 (by omega)) | (exfalso; omega)), (by intros; first | rfl | assumption | omega | (rename_i h8 h9; exact absurd h8 (by omega)) | (exfalso; omega)), (by intros; first | rfl | assumption | omega | (rename_i h8 h9; exact absurd h8 (by omega)) | (exfalso; omega)), (by intros; first | rfl | assumption | omega | (rename_i h8 h9; exact absurd h8 (by omega)) | (exfalso; omega)), (by intro h8; first | (exfalso; omega) | exact hw_ieq e3), (by intro h8; first | (exfalso; omega) | exact hw_ieq e3), (by intros; first | rfl | assumption | omega | (rename_i h8 h9; exact absurd h8 (by omega)) | (exfalso; omega)), (by intro h8; first | (exfalso; omega) | exact hw_ieq e3), (by intros; first | rfl | assumption | omega | (rename_i h8 h9; exact absurd h8 (by omega)) | (exfalso; omega)), (by intros; first | rfl | assumption | omega | (rename_i h8 h9; exact absurd h8 (by omega)) | (exfalso; omega)), (by intro h8 h9; first | (exfalso; omega) | (have h7 : (∀ j, j < 4 → fsz j = -1) → x2.toInt = 0 := (by assumption); exact h7 h9)), (by intros; first | rfl | assumption | omega | (rename_i h8 h9; exact absurd h8 (by omega)) | (exfalso; omega)), (by intros; first | rfl | assumption | omega | (rename_i h8 h9; exact absurd h8 (by omega)) | (exfalso; omega))⟩) dX12_count_94
    · refine lv_tableIn (tgt := 95) (off := 94) hx hb dX12_count_1 (by omega) (by omega) (by rw [w1]; rfl) (by decide) ?_
      refine lv_aload_n hx hb dX12_count_95 rfl (lv_at hl 0 rfl) ?_
      refine hw_get hx hb fg_7_11 hK vm rfl dX12_count_96 ?_
      refine lv_iconst (v := 2) hx hb dX12_count_99 (by decide) ?_
      refine hw_iald hx hb hK vro (hw_in (x := 2) (by decide) (by decide)) dX12_count_100 ?_
      refine lv_topi (fun x4 e5 => ?_)
      exact hw_iretR (v := x4) hx hb hr hlocks hQ rfl (⟨x4, rfl, (by intros; first | rfl | assumption | omega | (rename_i h8 h9; exact absurd h8 (by omega)) | (exfalso; omega)), (by intros; first | rfl | assumption | omega | (rename_i h8 h9; exact absurd h8 (by omega)) | (exfalso; omega)), (by intros; first | rfl | assumption | omega | (rename_i h8 h9; exact absurd h8 (by omega)) | (exfalso; omega)), (by intros; first | rfl | assumption | omega | (rename_i h8 h9; exact absurd h8 (by omega)) | (exfalso; omega)), (by intros; first | rfl | assumption | omega | (rename_i h8 h9; exact absurd h8 (by omega)) | (exfalso; omega)), (by intro h8; first | (exfalso; omega) | exact hw_ieq e5), (by intro h8; first | (exfalso; omega) | exact hw_ieq e5), (by intros; first | rfl | assumption | omega | (rename_i h8 h9; exact absurd h8 (by omega)) | (exfalso; omega)), (by intro h8; first | (exfalso; omega) | exact hw_ieq e5), (by intros; first | rfl | assumption | omega | (rename_i h8 h9; exact absurd h8 (by omega)) | (exfalso; omega)), (by intros; first | rfl | assumption | omega | (rename_i h8 h9; exact absurd h8 (by omega)) | (exfalso; omega)), (by intro h8 h9; first | (exfalso; omega) | (have h7 : (∀ j, j < 4 → fsz j = -1) → x4.toInt = 0 := (by assumption); exact h7 h9)), (by intros; first | rfl | assumption | omega | (rename_i h8 h9; exact absurd h8 (by omega)) | (exfalso; omega)), (by intros; first | rfl | assumption | omega | (rename_i h8 h9; exact absurd h8 (by omega)) | (exfalso; omega))⟩) dX12_count_101
    · refine lv_tableIn (tgt := 102) (off := 101) hx hb dX12_count_1 (by omega) (by omega) (by rw [w1]; rfl) (by decide) ?_
      refine lv_aload_n hx hb dX12_count_102 rfl (lv_at hl 0 rfl) ?_
      refine hw_cR (va_runV (As := []) (rest := []) ⟨hx, hb, hml, hown, hts⟩ (k_X12_brokenOnes l D G h0 _ rm ud_m ky_m lo_m wk_m dk_m ln_m sm_m fi_m be_m rk_m rl_m rw_m cl_m dg_m G0 Rm ⟨by first | decide | omega, by first | decide | omega⟩ ⟨by first | decide | omega, by first | decide | omega⟩ ⟨by first | decide | omega, by first | decide | omega⟩ ⟨by first | decide | omega, by first | decide | omega⟩ ⟨by first | decide | omega, by first | decide | omega⟩ ⟨by first | decide | omega, by first | decide | omega⟩ ⟨by first | decide | omega, by first | decide | omega⟩ ⟨by first | decide | omega, by first | decide | omega⟩ ⟨by first | decide | omega, by first | decide | omega⟩ ⟨by first | decide | omega, by first | decide | omega⟩ ⟨by first | decide | omega, by first | decide | omega⟩ ⟨by first | decide | omega, by first | decide | omega⟩) (cwV 0 hts gX12_count_X12_brokenOnes rfl rfl rfl (by decide +kernel) ⟨Nat.le_of_ble_eq_true rfl, Nat.le_of_ble_eq_true rfl⟩) (hw_pV (hw_rc (q := (RX12, TX12, 45)) hK vm rfl) hH hK hST hS (by decide) (fun _ h => Or.inl h) vm) rfl rfl hl.1 rfl (lv_room (Nat.le_of_ble_eq_true rfl)) dX12_count_103 ⟨Nat.le_of_ble_eq_true rfl, Nat.le_of_ble_eq_true rfl⟩) (fun v hp => ?_)
      obtain ⟨x6, rfl, q7⟩ := hp
      exact hw_iretR (v := x6) hx hb hr hlocks hQ rfl (⟨x6, rfl, (by intros; first | rfl | assumption | omega | (rename_i h8 h9; exact absurd h8 (by omega)) | (exfalso; omega)), (by intros; first | rfl | assumption | omega | (rename_i h8 h9; exact absurd h8 (by omega)) | (exfalso; omega)), (by intros; first | rfl | assumption | omega | (rename_i h8 h9; exact absurd h8 (by omega)) | (exfalso; omega)), (by intros; first | rfl | assumption | omega | (rename_i h8 h9; exact absurd h8 (by omega)) | (exfalso; omega)), (by intros; first | rfl | assumption | omega | (rename_i h8 h9; exact absurd h8 (by omega)) | (exfalso; omega)), (by intro h8; first | (exfalso; omega) | exact hw_ieq None), (by intro h8; first | (exfalso; omega) | exact hw_ieq None), (by intros; first | rfl | assumption | omega | (rename_i h8 h9; exact absurd h8 (by omega)) | (exfalso; omega)), (by intro h8; first | (exfalso; omega) | exact hw_ieq None), (by intros; first | rfl | assumption | omega | (rename_i h8 h9; exact absurd h8 (by omega)) | (exfalso; omega)), (by intros; first | rfl | assumption | omega | (rename_i h8 h9; exact absurd h8 (by omega)) | (exfalso; omega)), (by intro h8 h9; first | (exfalso; omega) | (have h7 : (∀ j, j < 4 → fsz j = -1) → x6.toInt = 0 := (by assumption); exact h7 h9)), (by intros; first | rfl | assumption | omega | (rename_i h8 h9; exact absurd h8 (by omega)) | (exfalso; omega)), (by intros; first | rfl | assumption | omega | (rename_i h8 h9; exact absurd h8 (by omega)) | (exfalso; omega))⟩) dX12_count_106
    · refine lv_tableIn (tgt := 107) (off := 106) hx hb dX12_count_1 (by omega) (by omega) (by rw [w1]; rfl) (by decide) ?_
      refine lv_aload_n hx hb dX12_count_107 rfl (lv_at hl 0 rfl) ?_
      refine hw_get hx hb fg_7_11 hK vm rfl dX12_count_108 ?_
      refine lv_iconst (v := 1) hx hb dX12_count_111 (by decide) ?_
      refine hw_iald hx hb hK vro (hw_in (x := 1) (by decide) (by decide)) dX12_count_112 ?_
      refine lv_topi (fun x8 e9 => ?_)
      exact hw_iretR (v := x8) hx hb hr hlocks hQ rfl (⟨x8, rfl, (by intros; first | rfl | assumption | omega | (rename_i h8 h9; exact absurd h8 (by omega)) | (exfalso; omega)), (by intros; first | rfl | assumption | omega | (rename_i h8 h9; exact absurd h8 (by omega)) | (exfalso; omega)), (by intros; first | rfl | assumption | omega | (rename_i h8 h9; exact absurd h8 (by omega)) | (exfalso; omega)), (by intros; first | rfl | assumption | omega | (rename_i h8 h9; exact absurd h8 (by omega)) | (exfalso; omega)), (by intros; first | rfl | assumption | omega | (rename_i h8 h9; exact absurd h8 (by omega)) | (exfalso; omega)), (by intro h8; first | (exfalso; omega) | exact hw_ieq e9), (by intro h8; first | (exfalso; omega) | exact hw_ieq e9), (by intros; first | rfl | assumption | omega | (rename_i h8 h9; exact absurd h8 (by omega)) | (exfalso; omega)), (by intro h8; first | (exfalso; omega) | exact hw_ieq e9), (by intros; first | rfl | assumption | omega | (rename_i h8 h9; exact absurd h8 (by omega)) | (exfalso; omega)), (by intros; first | rfl | assumption | omega | (rename_i h8 h9; exact absurd h8 (by omega)) | (exfalso; omega)), (by intro h8 h9; first | (exfalso; omega) | (have h7 : (∀ j, j < 4 → fsz j = -1) → x8.toInt = 0 := (by assumption); exact h7 h9)), (by intros; first | rfl | assumption | omega | (rename_i h8 h9; exact absurd h8 (by omega)) | (exfalso; omega)), (by intros; first | rfl | assumption | omega | (rename_i h8 h9; exact absurd h8 (by omega)) | (exfalso; omega))⟩) dX12_count_113
    · refine lv_tableIn (tgt := 114) (off := 113) hx hb dX12_count_1 (by omega) (by omega) (by rw [w1]; rfl) (by decide) ?_
      refine lv_aload_n hx hb dX12_count_114 rfl (lv_at hl 0 rfl) ?_
      refine hw_cR (va_runV (As := []) (rest := []) ⟨hx, hb, hml, hown, hts⟩ (k_X12_latest l D G h0 _ rm ud_m ky_m lo_m wk_m dk_m ln_m sm_m fi_m be_m rk_m rl_m rw_m cl_m dg_m G0 Rm ⟨by first | decide | omega, by first | decide | omega⟩ ⟨by first | decide | omega, by first | decide | omega⟩ ⟨by first | decide | omega, by first | decide | omega⟩ ⟨by first | decide | omega, by first | decide | omega⟩ ⟨by first | decide | omega, by first | decide | omega⟩ ⟨by first | decide | omega, by first | decide | omega⟩ ⟨by first | decide | omega, by first | decide | omega⟩ ⟨by first | decide | omega, by first | decide | omega⟩ ⟨by first | decide | omega, by first | decide | omega⟩ ⟨by first | decide | omega, by first | decide | omega⟩ ⟨by first | decide | omega, by first | decide | omega⟩ ⟨by first | decide | omega, by first | decide | omega⟩) (cwV 0 hts gX12_count_X12_latest rfl rfl rfl (by decide +kernel) ⟨Nat.le_of_ble_eq_true rfl, Nat.le_of_ble_eq_true rfl⟩) (hw_pV (hw_rc (q := (RX12, TX12, 45)) hK vm rfl) hH hK hST hS (by decide) (fun _ h => Or.inl h) vm) rfl rfl hl.1 rfl (lv_room (Nat.le_of_ble_eq_true rfl)) dX12_count_115 ⟨Nat.le_of_ble_eq_true rfl, Nat.le_of_ble_eq_true rfl⟩) (fun v hp => ?_)
      obtain ⟨x10, rfl, q11⟩ := hp
      exact hw_iretR (v := x10) hx hb hr hlocks hQ rfl (⟨x10, rfl, (by intros; first | rfl | assumption | omega | (rename_i h8 h9; exact absurd h8 (by omega)) | (exfalso; omega)), (by intros; first | rfl | assumption | omega | (rename_i h8 h9; exact absurd h8 (by omega)) | (exfalso; omega)), (by intros; first | rfl | assumption | omega | (rename_i h8 h9; exact absurd h8 (by omega)) | (exfalso; omega)), (by intros; first | rfl | assumption | omega | (rename_i h8 h9; exact absurd h8 (by omega)) | (exfalso; omega)), (by intros; first | rfl | assumption | omega | (rename_i h8 h9; exact absurd h8 (by omega)) | (exfalso; omega)), (by intro h8; first | (exfalso; omega) | exact hw_ieq None), (by intro h8; first | (exfalso; omega) | exact hw_ieq None), (by intros; first | rfl | assumption | omega | (rename_i h8 h9; exact absurd h8 (by omega)) | (exfalso; omega)), (by intro h8; first | (exfalso; omega) | exact hw_ieq None), (by intros; first | rfl | assumption | omega | (rename_i h8 h9; exact absurd h8 (by omega)) | (exfalso; omega)), (by intros; first | rfl | assumption | omega | (rename_i h8 h9; exact absurd h8 (by omega)) | (exfalso; omega)), (by intro h8 h9; first | (exfalso; omega) | (have h7 : (∀ j, j < 4 → fsz j = -1) → x10.toInt = 0 := (by assumption); exact h7 h9)), (by intros; first | rfl | assumption | omega | (rename_i h8 h9; exact absurd h8 (by omega)) | (exfalso; omega)), (by intros; first | rfl | assumption | omega | (rename_i h8 h9; exact absurd h8 (by omega)) | (exfalso; omega))⟩) dX12_count_118
    · refine lv_tableIn (tgt := 119) (off := 118) hx hb dX12_count_1 (by omega) (by omega) (by rw [w1]; rfl) (by decide) ?_
      refine lv_aload_n hx hb dX12_count_119 rfl (lv_at hl 0 rfl) ?_
      refine hw_get hx hb fg_208_11 hK vm rfl dX12_count_120 ?_
      exact hw_iretR (v := sm_m) hx hb hr hlocks hQ rfl (⟨sm_m, rfl, (by intros; first | rfl | assumption | omega | (rename_i h8 h9; exact absurd h8 (by omega)) | (exfalso; omega)), (by intros; first | rfl | assumption | omega | (rename_i h8 h9; exact absurd h8 (by omega)) | (exfalso; omega)), (by intros; first | rfl | assumption | omega | (rename_i h8 h9; exact absurd h8 (by omega)) | (exfalso; omega)), (by intros; first | rfl | assumption | omega | (rename_i h8 h9; exact absurd h8 (by omega)) | (exfalso; omega)), (by intros; first | rfl | assumption | omega | (rename_i h8 h9; exact absurd h8 (by omega)) | (exfalso; omega)), (by intro h8; first | (exfalso; omega) | exact hw_ieq None), (by intro h8; first | (exfalso; omega) | exact hw_ieq None), (by intros; first | rfl | assumption | omega | (rename_i h8 h9; exact absurd h8 (by omega)) | (exfalso; omega)), (by intro h8; first | (exfalso; omega) | exact hw_ieq None), (by intros; first | rfl | assumption | omega | (rename_i h8 h9; exact absurd h8 (by omega)) | (exfalso; omega)), (by intros; first | rfl | assumption | omega | (rename_i h8 h9; exact absurd h8 (by omega)) | (exfalso; omega)), (by intro h8 h9; first | (exfalso; omega) | (have h7 : (∀ j, j < 4 → fsz j = -1) → sm_m.toInt = 0 := (by assumption); exact h7 h9)), (by intros; first | rfl | assumption | omega | (rename_i h8 h9; exact absurd h8 (by omega)) | (exfalso; omega)), (by intros; first | rfl | assumption | omega | (rename_i h8 h9; exact absurd h8 (by omega)) | (exfalso; omega))⟩) dX12_count_123
    · refine lv_tableIn (tgt := 124) (off := 123) hx hb dX12_count_1 (by omega) (by omega) (by rw [w1]; rfl) (by decide) ?_
      refine lv_aload_n hx hb dX12_count_124 rfl (lv_at hl 0 rfl) ?_
      refine hw_cR (va_runV (As := []) (rest := []) ⟨hx, hb, hml, hown, hts⟩ (k_X12_racks l D G h0 _ rm ud_m ky_m lo_m wk_m dk_m ln_m sm_m fi_m be_m rk_m rl_m rw_m cl_m dg_m fsz G0 Rm ⟨by first | decide | omega, by first | decide | omega⟩ ⟨by first | decide | omega, by first | decide | omega⟩ ⟨by first | decide | omega, by first | decide | omega⟩ ⟨by first | decide | omega, by first | decide | omega⟩ ⟨by first | decide | omega, by first | decide | omega⟩ ⟨by first | decide | omega, by first | decide | omega⟩ ⟨by first | decide | omega, by first | decide | omega⟩ ⟨by first | decide | omega, by first | decide | omega⟩ ⟨by first | decide | omega, by first | decide | omega⟩ ⟨by first | decide | omega, by first | decide | omega⟩ ⟨by first | decide | omega, by first | decide | omega⟩ ⟨by first | decide | omega, by first | decide | omega⟩ qsz) (cwV 0 hts gX12_count_X12_racks rfl rfl rfl (by decide +kernel) ⟨Nat.le_of_ble_eq_true rfl, Nat.le_of_ble_eq_true rfl⟩) (hw_pV (hw_rc (q := (RX12, TX12, 45)) hK vm rfl) hH hK hST hS (by decide) (fun _ h => Or.inl h) ⟨vm, vsz⟩) rfl rfl hl.1 rfl (lv_room (Nat.le_of_ble_eq_true rfl)) dX12_count_125 ⟨Nat.le_of_ble_eq_true rfl, Nat.le_of_ble_eq_true rfl⟩) (fun v hp => ?_)
      obtain ⟨x12, rfl, q13⟩ := hp
      exact hw_iretR (v := x12) hx hb hr hlocks hQ rfl (⟨x12, rfl, (by intros; first | rfl | assumption | omega | (rename_i h8 h9; exact absurd h8 (by omega)) | (exfalso; omega)), (by intros; first | rfl | assumption | omega | (rename_i h8 h9; exact absurd h8 (by omega)) | (exfalso; omega)), (by intros; first | rfl | assumption | omega | (rename_i h8 h9; exact absurd h8 (by omega)) | (exfalso; omega)), (by intros; first | rfl | assumption | omega | (rename_i h8 h9; exact absurd h8 (by omega)) | (exfalso; omega)), (by intros; first | rfl | assumption | omega | (rename_i h8 h9; exact absurd h8 (by omega)) | (exfalso; omega)), (by intro h8; first | (exfalso; omega) | exact hw_ieq None), (by intro h8; first | (exfalso; omega) | exact hw_ieq None), (by intros; first | rfl | assumption | omega | (rename_i h8 h9; exact absurd h8 (by omega)) | (exfalso; omega)), (by intro h8; first | (exfalso; omega) | exact hw_ieq None), (by intros; first | rfl | assumption | omega | (rename_i h8 h9; exact absurd h8 (by omega)) | (exfalso; omega)), (by intros; first | rfl | assumption | omega | (rename_i h8 h9; exact absurd h8 (by omega)) | (exfalso; omega)), (by intro h8 h9; first | (exfalso; omega) | (have h7 : (∀ j, j < 4 → fsz j = -1) → x12.toInt = 0 := (by assumption); exact h7 h9)), (by intros; first | rfl | assumption | omega | (rename_i h8 h9; exact absurd h8 (by omega)) | (exfalso; omega)), (by intros; first | rfl | assumption | omega | (rename_i h8 h9; exact absurd h8 (by omega)) | (exfalso; omega))⟩) dX12_count_128
    · refine lv_tableIn (tgt := 129) (off := 128) hx hb dX12_count_1 (by omega) (by omega) (by rw [w1]; rfl) (by decide) ?_
      refine lv_aload_n hx hb dX12_count_129 rfl (lv_at hl 0 rfl) ?_
      refine hw_get hx hb fg_205_11 hK vm rfl dX12_count_130 ?_
      exact hw_iretR (v := ud_m) hx hb hr hlocks hQ rfl (⟨ud_m, rfl, (by intros; first | rfl | assumption | omega | (rename_i h8 h9; exact absurd h8 (by omega)) | (exfalso; omega)), (by intros; first | rfl | assumption | omega | (rename_i h8 h9; exact absurd h8 (by omega)) | (exfalso; omega)), (by intros; first | rfl | assumption | omega | (rename_i h8 h9; exact absurd h8 (by omega)) | (exfalso; omega)), (by intros; first | rfl | assumption | omega | (rename_i h8 h9; exact absurd h8 (by omega)) | (exfalso; omega)), (by intros; first | rfl | assumption | omega | (rename_i h8 h9; exact absurd h8 (by omega)) | (exfalso; omega)), (by intro h8; first | (exfalso; omega) | exact hw_ieq None), (by intro h8; first | (exfalso; omega) | exact hw_ieq None), (by intros; first | rfl | assumption | omega | (rename_i h8 h9; exact absurd h8 (by omega)) | (exfalso; omega)), (by intro h8; first | (exfalso; omega) | exact hw_ieq None), (by intros; first | rfl | assumption | omega | (rename_i h8 h9; exact absurd h8 (by omega)) | (exfalso; omega)), (by intros; first | rfl | assumption | omega | (rename_i h8 h9; exact absurd h8 (by omega)) | (exfalso; omega)), (by intro h8 h9; first | (exfalso; omega) | (have h7 : (∀ j, j < 4 → fsz j = -1) → ud_m.toInt = 0 := (by assumption); exact h7 h9)), (by intros; first | rfl | assumption | omega | (rename_i h8 h9; exact absurd h8 (by omega)) | (exfalso; omega)), (by intros; first | rfl | assumption | omega | (rename_i h8 h9; exact absurd h8 (by omega)) | (exfalso; omega))⟩) dX12_count_133
    · refine lv_tableIn (tgt := 134) (off := 133) hx hb dX12_count_1 (by omega) (by omega) (by rw [w1]; rfl) (by decide) ?_
      refine lv_aload_n hx hb dX12_count_134 rfl (lv_at hl 0 rfl) ?_
      refine hw_get hx hb fg_115_11 hK vm rfl dX12_count_135 ?_
      exact hw_iretR (v := ln_m) hx hb hr hlocks hQ rfl (⟨ln_m, rfl, (by intros; first | rfl | assumption | omega | (rename_i h8 h9; exact absurd h8 (by omega)) | (exfalso; omega)), (by intros; first | rfl | assumption | omega | (rename_i h8 h9; exact absurd h8 (by omega)) | (exfalso; omega)), (by intros; first | rfl | assumption | omega | (rename_i h8 h9; exact absurd h8 (by omega)) | (exfalso; omega)), (by intros; first | rfl | assumption | omega | (rename_i h8 h9; exact absurd h8 (by omega)) | (exfalso; omega)), (by intros; first | rfl | assumption | omega | (rename_i h8 h9; exact absurd h8 (by omega)) | (exfalso; omega)), (by intro h8; first | (exfalso; omega) | exact hw_ieq None), (by intro h8; first | (exfalso; omega) | exact hw_ieq None), (by intros; first | rfl | assumption | omega | (rename_i h8 h9; exact absurd h8 (by omega)) | (exfalso; omega)), (by intro h8; first | (exfalso; omega) | exact hw_ieq None), (by intros; first | rfl | assumption | omega | (rename_i h8 h9; exact absurd h8 (by omega)) | (exfalso; omega)), (by intros; first | rfl | assumption | omega | (rename_i h8 h9; exact absurd h8 (by omega)) | (exfalso; omega)), (by intro h8 h9; first | (exfalso; omega) | (have h7 : (∀ j, j < 4 → fsz j = -1) → ln_m.toInt = 0 := (by assumption); exact h7 h9)), (by intros; first | rfl | assumption | omega | (rename_i h8 h9; exact absurd h8 (by omega)) | (exfalso; omega)), (by intros; first | rfl | assumption | omega | (rename_i h8 h9; exact absurd h8 (by omega)) | (exfalso; omega))⟩) dX12_count_138
