set_option maxHeartbeats 4000000 in
set_option maxRecDepth 100000 in
theorem k3_X12_cut (l : Launch) (D : hw_D) (G : Nat → Nat) (p1 : Int32) (p2 : Int64) (sz : Nat) : Met l yX12_cut wsX12_cut ({ frames := 0, cells := 0, slots := 0, locals := 0 } : Room) (hw_PC D G [.int p1, .long p2] sz (fun H => True)) (hw_QR (fun v => ∃ (r : Int64), v = .long r ∧ (p1.toInt = 2 → r = p2.toInt32.toInt64))) 0 0 (fun _ => False) := by
  refine hw_met (cc := cX12_cut) (maxL := 3) (ret := (some .long)) (plainFor_of_name (by decide)) rfl (Nat.le_of_ble_eq_true rfl) ?_
  intro p e s m args below meth c QQ ls hsz hx hb hml hr hts hown hlocks hnm hH hK hST hF hQ hl
  subst hsz
  have hS : va_S (hw_AW G [] s.heap.size) s.heap s.heap [] := va_S.rf
  have hl : lv_has ls 3 [(0, .int p1), (1, .long p2)] := hl
  refine lv_iload_n hx hb dX12_cut_0 rfl (lv_at hl 0 rfl) ?_
  refine lv_if_ne (tgt := 11) hx hb dX12_cut_1 (by decide) (fun c1 => ?_) (fun c1 => ?_)
  · have b2 : p1.toInt ≠ 0 := hw_ine c1
    refine lv_iload_n hx hb dX12_cut_11 rfl (lv_at hl 0 rfl) ?_
    refine lv_iconst (v := 1) hx hb dX12_cut_12 (by decide) ?_
    refine lv_icmp_ne (tgt := 23) hx hb dX12_cut_13 (by decide) (fun c3 => ?_) (fun c3 => ?_)
    · have b4 : p1.toInt ≠ 1 := hw_ine c3
      refine lv_iload_n hx hb dX12_cut_23 rfl (lv_at hl 0 rfl) ?_
      refine lv_iconst (v := 2) hx hb dX12_cut_24 (by decide) ?_
      refine lv_icmp_ne (tgt := 34) hx hb dX12_cut_25 (by decide) (fun c5 => ?_) (fun c5 => ?_)
      · have b6 : p1.toInt ≠ 2 := hw_ine c5
        refine lv_iload_n hx hb dX12_cut_34 rfl (lv_at hl 0 rfl) ?_
        refine lv_iconst (v := 3) hx hb dX12_cut_35 (by decide) ?_
        refine lv_icmp_ne (tgt := 43) hx hb dX12_cut_36 (by decide) (fun c7 => ?_) (fun c7 => ?_)
        · have b8 : p1.toInt ≠ 3 := hw_ine c7
          refine lv_lload_n hx hb dX12_cut_43 rfl (lv_at hl 1 rfl) ?_
          refine lv_lconst (v := 1) hx hb dX12_cut_44 (by decide) ?_
          refine lv_land hx hb dX12_cut_45  ?_
          refine lv_topl (fun x9 e10 => ?_)
          exact hw_lretR (v := x9) hx hb hr hlocks hQ (⟨x9, rfl, (by intro h9; first | (exfalso; omega) | (rw [e10, hli]))⟩) dX12_cut_46
        · have b11 : p1.toInt = 3 := hw_ieq c7
          refine lv_lload_n hx hb dX12_cut_39 rfl (lv_at hl 1 rfl) ?_
          refine lv_goto (tgt := 46) hx hb dX12_cut_40 (by decide) ?_
          exact hw_lretR (v := p2) hx hb hr hlocks hQ (⟨p2, rfl, (by intro h9; first | (exfalso; omega) | (rw [None, hli]))⟩) dX12_cut_46
      · have b12 : p1.toInt = 2 := hw_ieq c5
        refine lv_lload_n hx hb dX12_cut_28 rfl (lv_at hl 1 rfl) ?_
        refine lv_l2i hx hb dX12_cut_29 rfl ?_
        refine lv_topi (fun x13 e14 => ?_)
        have hli := e14
        refine lv_i2l hx hb dX12_cut_30 rfl ?_
        refine lv_topl (fun x15 e16 => ?_)
        have t17 : x15.toInt = x13.toInt := by rw [e16]; exact hw_i2l _
        have rg18 := hw_rng x13
        refine lv_goto (tgt := 46) hx hb dX12_cut_31 (by decide) ?_
        exact hw_lretR (v := x15) hx hb hr hlocks hQ (⟨x15, rfl, (by intro h9; first | (exfalso; omega) | (rw [e16, hli]))⟩) dX12_cut_46
    · have b19 : p1.toInt = 1 := hw_ieq c3
      refine lv_lload_n hx hb dX12_cut_16 rfl (lv_at hl 1 rfl) ?_
      refine lv_l2i hx hb dX12_cut_17 rfl ?_
      refine lv_topi (fun x20 e21 => ?_)
      refine lv_i2s hx hb dX12_cut_18 rfl ?_
      refine lv_topi (fun x22 e23 => ?_)
      refine lv_i2l hx hb dX12_cut_19 rfl ?_
      refine lv_topl (fun x24 e25 => ?_)
      have t26 : x24.toInt = x22.toInt := by rw [e25]; exact hw_i2l _
      have rg27 := hw_rng x22
      refine lv_goto (tgt := 46) hx hb dX12_cut_20 (by decide) ?_
      exact hw_lretR (v := x24) hx hb hr hlocks hQ (⟨x24, rfl, (by intro h9; first | (exfalso; omega) | (rw [e25, hli]))⟩) dX12_cut_46
  · have b28 : p1.toInt = 0 := hw_ieq c1
    refine lv_lload_n hx hb dX12_cut_4 rfl (lv_at hl 1 rfl) ?_
    refine lv_l2i hx hb dX12_cut_5 rfl ?_
    refine lv_topi (fun x29 e30 => ?_)
    refine lv_i2b hx hb dX12_cut_6 rfl ?_
    refine lv_topi (fun x31 e32 => ?_)
    refine lv_i2l hx hb dX12_cut_7 rfl ?_
    refine lv_topl (fun x33 e34 => ?_)
    have t35 : x33.toInt = x31.toInt := by rw [e34]; exact hw_i2l _
    have rg36 := hw_rng x31
    refine lv_goto (tgt := 46) hx hb dX12_cut_8 (by decide) ?_
    exact hw_lretR (v := x33) hx hb hr hlocks hQ (⟨x33, rfl, (by intro h9; first | (exfalso; omega) | (rw [e34, hli]))⟩) dX12_cut_46

set_option maxHeartbeats 4000000 in
set_option maxRecDepth 100000 in
theorem k3_X12_rack (l : Launch) (D : hw_D) (G : Nat → Nat) (h0 : Nat) (p1 : Int32) (p2 : Int32) (p3 : Int32) (sz : Nat) (rm : Nat → Nat) (ud_m ky_m lo_m wk_m dk_m ln_m sm_m fi_m be_m rk_m rl_m rw_m cl_m dg_m : Int32) (fla : Nat → Int32) (fsz : Nat → Int32) (fth : Nat → Int64) (G0 : G h0 = 9) (Rm : hw_RM G rm) (gud_m : 0 ≤ ud_m.toInt ∧ ud_m.toInt ≤ 8) (gky_m : 0 ≤ ky_m.toInt ∧ ky_m.toInt ≤ 7) (glo_m : 0 ≤ lo_m.toInt ∧ lo_m.toInt ≤ 7) (gwk_m : 0 ≤ wk_m.toInt ∧ wk_m.toInt ≤ 3) (gln_m : 0 ≤ ln_m.toInt ∧ ln_m.toInt ≤ 200) (gsm_m : 0 ≤ sm_m.toInt ∧ sm_m.toInt ≤ 6) (gfi_m : 0 ≤ fi_m.toInt ∧ fi_m.toInt ≤ 200) (gbe_m : 0 ≤ be_m.toInt ∧ be_m.toInt ≤ 200) (grk_m : 0 ≤ rk_m.toInt ∧ rk_m.toInt ≤ 7) (grl_m : 0 ≤ rl_m.toInt ∧ rl_m.toInt ≤ 7) (grw_m : 0 ≤ rw_m.toInt ∧ rw_m.toInt ≤ 3) (gdg_m : 0 ≤ dg_m.toInt ∧ dg_m.toInt ≤ 1) (qsz : ∀ j, j < 4 → (-1) ≤ (fsz j).toInt ∧ (fsz j).toInt ≤ 24) : Met l yX12_rack wsX12_rack ({ frames := 2, cells := 0, slots := 0, locals := 45 } : Room) (hw_PC D G [.ref h0, .int p1, .int p2, .int p3] sz (fun H => va_at D.1 vwCl (h0, .inr (11, hw_LM rm ud_m ky_m lo_m wk_m dk_m ln_m sm_m fi_m be_m rk_m rl_m rw_m cl_m dg_m)) H ∧ va_at D.1 vwCl ((rm 41), .inl (D.2.1 0, 4, .inl fla)) H ∧ va_at D.1 vwCl ((rm 42), .inl (D.2.1 0, 4, .inl fsz)) H ∧ va_at D.1 vwCl ((rm 43), .inl (D.2.1 1, 96, .inr (.inl fth))) H)) (hw_QM (fun v H => (∃ (fla2 : Nat → Int32) (fsz2 : Nat → Int32) (fth2 : Nat → Int64), v = some (.int (-2)) ∧ hw_HT D G H ∧ va_at D.1 vwCl (h0, .inr (11, hw_LM rm ud_m ky_m lo_m wk_m dk_m ln_m sm_m fi_m be_m rk_m rl_m rw_m cl_m dg_m)) H ∧ va_at D.1 vwCl ((rm 41), .inl (D.2.1 0, 4, .inl fla2)) H ∧ va_at D.1 vwCl ((rm 42), .inl (D.2.1 0, 4, .inl fsz2)) H ∧ va_at D.1 vwCl ((rm 43), .inl (D.2.1 1, 96, .inr (.inl fth2))) H ∧ ((p1.toInt < 0 ∨ 3 < p1.toInt)) ∧ fla2 = fla ∧ fsz2 = fsz ∧ fth2 = fth) ∨ (∃ (fla2 : Nat → Int32) (fsz2 : Nat → Int32) (fth2 : Nat → Int64), v = some (.int (-3)) ∧ hw_HT D G H ∧ va_at D.1 vwCl (h0, .inr (11, hw_LM rm ud_m ky_m lo_m wk_m dk_m ln_m sm_m fi_m be_m rk_m rl_m rw_m cl_m dg_m)) H ∧ va_at D.1 vwCl ((rm 41), .inl (D.2.1 0, 4, .inl fla2)) H ∧ va_at D.1 vwCl ((rm 42), .inl (D.2.1 0, 4, .inl fsz2)) H ∧ va_at D.1 vwCl ((rm 43), .inl (D.2.1 1, 96, .inr (.inl fth2))) H ∧ ((0 ≤ p1.toInt ∧ p1.toInt ≤ 3)) ∧ (p2.toInt < 0 ∨ 4 < p2.toInt ∨ 24 < p3.toInt) ∧ fla2 = fla ∧ fsz2 = fsz ∧ fth2 = fth) ∨ (∃ (fla2 : Nat → Int32) (fsz2 : Nat → Int32) (fth2 : Nat → Int64), v = some (.int (-14)) ∧ hw_HT D G H ∧ va_at D.1 vwCl (h0, .inr (11, hw_LM rm ud_m ky_m lo_m wk_m dk_m ln_m sm_m fi_m be_m rk_m rl_m rw_m cl_m dg_m)) H ∧ va_at D.1 vwCl ((rm 41), .inl (D.2.1 0, 4, .inl fla2)) H ∧ va_at D.1 vwCl ((rm 42), .inl (D.2.1 0, 4, .inl fsz2)) H ∧ va_at D.1 vwCl ((rm 43), .inl (D.2.1 1, 96, .inr (.inl fth2))) H ∧ ((0 ≤ p1.toInt ∧ p1.toInt ≤ 3)) ∧ (0 ≤ p2.toInt ∧ p2.toInt ≤ 4 ∧ p3.toInt < 0) ∧ fla2 = fla ∧ fsz2 = fsz ∧ fth2 = fth) ∨ (∃ (r : Int32) (fla2 : Nat → Int32) (fsz2 : Nat → Int32) (fth2 : Nat → Int64), v = some (.int r) ∧ hw_HT D G H ∧ va_at D.1 vwCl (h0, .inr (11, hw_LM rm ud_m ky_m lo_m wk_m dk_m ln_m sm_m fi_m be_m rk_m rl_m rw_m cl_m dg_m)) H ∧ va_at D.1 vwCl ((rm 41), .inl (D.2.1 0, 4, .inl fla2)) H ∧ va_at D.1 vwCl ((rm 42), .inl (D.2.1 0, 4, .inl fsz2)) H ∧ va_at D.1 vwCl ((rm 43), .inl (D.2.1 1, 96, .inr (.inl fth2))) H ∧ ((0 ≤ p1.toInt ∧ p1.toInt ≤ 3)) ∧ (0 ≤ p2.toInt ∧ p2.toInt ≤ 4 ∧ 0 ≤ p3.toInt ∧ p3.toInt ≤ 24) ∧ r = p3 ∧ fla2 = upd fla p1.toNatClampNeg p2 ∧ fsz2 = upd fsz p1.toNatClampNeg p3 ∧ (∀ u : Nat, fth2 u = hw_zm fth (24 * p1.toInt) p3.toInt u))) (hw_AW G [81, 82, 83] sz)) 0 0 (hw_AW G [81, 82, 83] sz) := by
  refine hw_met (cc := cX12_rack) (maxL := 5) (ret := (some .int)) (plainFor_of_name (by decide)) rfl (Nat.le_of_ble_eq_true rfl) ?_
  intro p e s m args below meth c QQ ls hsz hx hb hml hr hts hown hlocks hnm hH hK hST hF hQ hl
  subst hsz
  have hS : va_S (hw_AW G [81, 82, 83] s.heap.size) s.heap s.heap [] := va_S.rf
  obtain ⟨vm, vla, vsz, vth⟩ := hF
  have hl : lv_has ls 5 [(0, .ref h0), (1, .int p1), (2, .int p2), (3, .int p3)] := hl
  have u_11 : ∀ w ∈ u_ws RX12 TX12 45, w.before args s = true := fun w hw => hts w ((by decide +kernel : ∀ w ∈ u_ws RX12 TX12 45, w ∈ wsX12_rack) w hw)
  have fg_96_11 : hw_FG s args m 96 11 41 := ⟨RX12, "WardWalkersModel", RX12, TX12, 45, u_11, hown, rfl, by decide, (hts (.fieldLink RX12 96 "WardWalkersModel" "lanes" "[I") (by decide +kernel)), (fun _ h9 => h9)⟩
  have fg_99_11 : hw_FG s args m 99 11 42 := ⟨RX12, "WardWalkersModel", RX12, TX12, 45, u_11, hown, rfl, by decide, (hts (.fieldLink RX12 99 "WardWalkersModel" "sizes" "[I") (by decide +kernel)), (fun _ h9 => h9)⟩
  have fg_102_11 : hw_FG s args m 102 11 43 := ⟨RX12, "WardWalkersModel", RX12, TX12, 45, u_11, hown, rfl, by decide, (hts (.fieldLink RX12 102 "WardWalkersModel" "things" "[J") (by decide +kernel)), (fun _ h9 => h9)⟩
  refine lv_iload_n hx hb dX12_rack_0 rfl (lv_at hl 1 rfl) ?_
  refine hw_cR (va_runS (As := [.int p1]) (rest := []) ⟨hx, hb, hml, hown, hts⟩ (k_X12_isRack l D G p1 _) (va_cwS 1 hts gX12_rack_X12_isRack rfl rfl rfl (by decide +kernel) ⟨Nat.le_of_ble_eq_true rfl, Nat.le_of_ble_eq_true rfl⟩) (hw_pS hH hK hST hS (by decide) (fun _ h => Or.inl h) trivial) rfl rfl hl.1 rfl (lv_room (Nat.le_of_ble_eq_true rfl)) dX12_rack_1 ⟨Nat.le_of_ble_eq_true rfl, Nat.le_of_ble_eq_true rfl⟩) (fun v hp => ?_)
  rcases hp with ⟨rfl, q1⟩ | ⟨rfl, q2⟩
  · refine lv_if_ne (tgt := 10) hx hb dX12_rack_4 (by decide) (fun c3 => ?_) (fun c3 => ?_)
    · refine lv_iload_n hx hb dX12_rack_10 rfl (lv_at hl 2 rfl) ?_
      refine lv_i2l hx hb dX12_rack_11 rfl ?_
      refine lv_topl (fun x4 e5 => ?_)
      have t6 : x4.toInt = p2.toInt := by rw [e5]; exact hw_i2l _
      have rg7 := hw_rng p2
      refine lv_lconst (v := 0) hx hb dX12_rack_12 (by decide) ?_
      refine lv_ldc2 (v := 4) hx hb hown (hts (.constantLong RX12 252 (4)) (by decide +kernel)) dX12_rack_13 ?_
      refine hw_cR (va_runS (As := [.long x4, .long 0, .long 4]) (rest := []) ⟨hx, hb, hml, hown, hts⟩ (k_X12_in l D G x4 0 4 _) (va_cwS 3 hts gX12_rack_X12_in rfl rfl rfl (by decide +kernel) ⟨Nat.le_of_ble_eq_true rfl, Nat.le_of_ble_eq_true rfl⟩) (hw_pS hH hK hST hS (by decide) (fun _ h => Or.inl h) trivial) rfl rfl hl.1 rfl (lv_room (Nat.le_of_ble_eq_true rfl)) dX12_rack_16 ⟨Nat.le_of_ble_eq_true rfl, Nat.le_of_ble_eq_true rfl⟩) (fun v hp => ?_)
      have l8 : (0 : Int64).toInt = 0 := by decide
      have l9 : (4 : Int64).toInt = 4 := by decide
      rcases hp with ⟨rfl, q10⟩ | ⟨rfl, q11⟩
      · refine lv_if_eq (tgt := 28) hx hb dX12_rack_19 (by decide) (fun c12 => ?_) (fun c12 => ?_)
        · exact absurd c12 (by decide)
        · refine lv_iload_n hx hb dX12_rack_22 rfl (lv_at hl 3 rfl) ?_
          refine lv_bipush (v := 24) hx hb dX12_rack_23 (by decide) ?_
          refine lv_icmp_le (tgt := 31) hx hb dX12_rack_25 (by decide) (fun c13 => ?_) (fun c13 => ?_)
          · have b14 : p3.toInt ≤ 24 := hw_ile c13
            refine lv_iload_n hx hb dX12_rack_31 rfl (lv_at hl 3 rfl) ?_
            refine lv_if_ge (tgt := 38) hx hb dX12_rack_32 (by decide) (fun c15 => ?_) (fun c15 => ?_)
            · have b16 : 0 ≤ p3.toInt := hw_ile c15
              refine lv_aload_n hx hb dX12_rack_38 rfl (lv_at hl 0 rfl) ?_
              refine hw_get hx hb fg_96_11 hK vm rfl dX12_rack_39 ?_
              refine lv_iload_n hx hb dX12_rack_42 rfl (lv_at hl 1 rfl) ?_
              refine lv_iload_n hx hb dX12_rack_43 rfl (lv_at hl 2 rfl) ?_
              refine hw_iast hx hb hK hH vla (hw_in (by omega) (by omega)) (fun _ => by rw [(hw_RM_41 Rm)]; exact ⟨_, rfl⟩) hS (hw_AWi (hw_RM_41 Rm) (by decide)) dX12_rack_44 (fun H locs hH vla oq hz hS => ?_)
              have vm := va_at.kept vm (oq _ (hw_ne G0 (hw_RM_41 Rm) (by decide)))
              have vsz := va_at.kept vsz (oq _ (hw_ne (hw_RM_42 Rm) (hw_RM_41 Rm) (by decide)))
              have vth := va_at.kept vth (oq _ (hw_ne (hw_RM_43 Rm) (hw_RM_41 Rm) (by decide)))
              obtain ⟨f17, e18⟩ : ∃ z, z = upd fla p1.toNatClampNeg p2 := ⟨_, rfl⟩
              rw [← e18] at vla
              refine lv_aload_n hx hb dX12_rack_45 rfl (lv_at hl 0 rfl) ?_
              refine hw_get hx hb fg_99_11 hK vm rfl dX12_rack_46 ?_
              refine lv_iload_n hx hb dX12_rack_49 rfl (lv_at hl 1 rfl) ?_
              refine lv_iload_n hx hb dX12_rack_50 rfl (lv_at hl 3 rfl) ?_
              refine hw_iast hx hb hK hH vsz (hw_in (by omega) (by omega)) (fun _ => by rw [(hw_RM_42 Rm)]; refine ⟨_, rfl, fun j hj => ?_⟩; unfold upd; split; exact ⟨by first | decide | omega, by first | decide | omega⟩; exact qsz j hj) hS (hw_AWi (hw_RM_42 Rm) (by decide)) dX12_rack_51 (fun H locs hH vsz oq hz hS => ?_)
              have vm := va_at.kept vm (oq _ (hw_ne G0 (hw_RM_42 Rm) (by decide)))
              have vla := va_at.kept vla (oq _ (hw_ne (hw_RM_41 Rm) (hw_RM_42 Rm) (by decide)))
              have vth := va_at.kept vth (oq _ (hw_ne (hw_RM_43 Rm) (hw_RM_42 Rm) (by decide)))
              obtain ⟨f19, e20⟩ : ∃ z, z = upd fsz p1.toNatClampNeg p3 := ⟨_, rfl⟩
              rw [← e20] at vsz
              have q21 : ∀ j, j < 4 → (-1) ≤ (f19 j).toInt ∧ (f19 j).toInt ≤ 24 := by
                intro j hj; rw [e20]; unfold upd; split
                · exact ⟨by first | decide | omega, by first | decide | omega⟩
                · exact qsz j hj
              refine lv_iconst (v := 0) hx hb dX12_rack_52 (by decide) ?_
              refine lv_istore (lv' := [(4, .int 0), (0, .ref h0), (1, .int p1), (2, .int p2), (3, .int p3)]) hx hb dX12_rack_53 hl (by decide) rfl (fun ls hl => ?_)
              have L55 : ∀ (n25 : Nat) (y4_22 : Int32) (f23 : Nat → Int64) (hm : (24 - y4_22.toInt).toNat < n25) (g24 : 0 ≤ y4_22.toInt ∧ y4_22.toInt ≤ 24) (inv55_0 : ∀ u : Nat, f23 u = hw_zm fth (24 * p1.toInt) y4_22.toInt u) (inv55_1 : y4_22.toInt ≤ p3.toInt) (H : Heap) (locs : List Loc) (hH : hw_HT D G H) (vm : va_at D.1 vwCl (h0, .inr (11, hw_LM rm ud_m ky_m lo_m wk_m dk_m ln_m sm_m fi_m be_m rk_m rl_m rw_m cl_m dg_m)) H) (vla : va_at D.1 vwCl ((rm 41), .inl (D.2.1 0, 4, .inl f17)) H) (vsz : va_at D.1 vwCl ((rm 42), .inl (D.2.1 0, 4, .inl f19)) H) (vth : va_at D.1 vwCl ((rm 43), .inl (D.2.1 1, 96, .inr (.inl f23))) H) (hS : va_S (hw_AW G [81, 82, 83] s.heap.size) s.heap H locs) (ls : Array Slot) (hl : lv_has ls 5 [(4, .int y4_22), (0, .ref h0), (1, .int p1), (2, .int p2), (3, .int p3)]), W p l e ({ frames := 2, cells := 0, slots := 0, locals := 45 } : Room) s m args below meth c H locs 0 0 QQ (F0 m 55 ls []) := by
                intro n25
                induction n25 with
                | zero => intro y4_22 f23 hm; exact absurd hm (Nat.not_lt_zero _)
                | succ n25 ih55 =>
                  intro y4_22 f23 hm g24 inv55_0 inv55_1 H locs hH vm vla vsz vth hS ls hl
                  refine lv_iload hx hb dX12_rack_55 (lv_at hl 0 rfl) ?_
                  refine lv_iload_n hx hb dX12_rack_57 rfl (lv_at hl 4 rfl) ?_
                  refine lv_icmp_ge (tgt := 80) hx hb dX12_rack_58 (by decide) (fun c26 => ?_) (fun c26 => ?_)
                  · have b27 : p3.toInt ≤ y4_22.toInt := hw_ile c26
                    refine lv_iload_n hx hb dX12_rack_80 rfl (lv_at hl 4 rfl) ?_
                    exact hw_iretM (v := p3) hx hb hr hlocks hQ hS rfl (Or.inr (Or.inr (Or.inr (⟨p3, f17, f19, f23, rfl, hH, vm, vla, vsz, vth, (by first | rfl | trivial | assumption | omega | (intros; first | rfl | assumption | omega | (exfalso; omega))), (by first | rfl | trivial | assumption | omega | (intros; first | rfl | assumption | omega | (exfalso; omega))), (by first | rfl | trivial | assumption | omega | (intros; first | rfl | assumption | omega | (exfalso; omega))), (by exact e18), (by exact e20), (by intro u; rw [inv55_0 u, show y4_22.toInt = p3.toInt from by omega])⟩)))) dX12_rack_81
                  · have b28 : y4_22.toInt < p3.toInt := hw_inle c26
                    refine lv_aload_n hx hb dX12_rack_61 rfl (lv_at hl 1 rfl) ?_
                    refine hw_get hx hb fg_102_11 hK vm rfl dX12_rack_62 ?_
                    refine lv_bipush (v := 24) hx hb dX12_rack_65 (by decide) ?_
                    refine lv_iload_n hx hb dX12_rack_67 rfl (lv_at hl 2 rfl) ?_
                    refine lv_imul hx hb dX12_rack_68 ?_
                    refine lv_topi (fun x29 e30 => ?_)
                    have t31 : x29.toInt = 24 * p1.toInt := by rw [e30]; exact hw_mul rfl rfl (by omega) (by omega)
                    refine lv_iload hx hb dX12_rack_69 (lv_at hl 0 rfl) ?_
                    refine lv_iadd hx hb dX12_rack_71 ?_
                    refine lv_topi (fun x32 e33 => ?_)
                    have t34 : x32.toInt = x29.toInt + y4_22.toInt := by rw [e33]; exact hw_add rfl rfl (by omega) (by omega)
                    have hqi : x32.toNatClampNeg = (24 * p1.toInt + y4_22.toInt).toNat := by rw [hw_tc]; omega
                    refine lv_lconst (v := 0) hx hb dX12_rack_72 (by decide) ?_
                    refine hw_last hx hb hK hH vth (hw_in (by omega) (by omega)) (fun _ => by rw [(hw_RM_43 Rm)]; exact ⟨_, rfl⟩) hS (hw_AWi (hw_RM_43 Rm) (by decide)) dX12_rack_73 (fun H locs hH vth oq hz hS => ?_)
                    have vm := va_at.kept vm (oq _ (hw_ne G0 (hw_RM_43 Rm) (by decide)))
                    have vla := va_at.kept vla (oq _ (hw_ne (hw_RM_41 Rm) (hw_RM_43 Rm) (by decide)))
                    have vsz := va_at.kept vsz (oq _ (hw_ne (hw_RM_42 Rm) (hw_RM_43 Rm) (by decide)))
                    obtain ⟨f35, e36⟩ : ∃ z, z = vp_updL f23 x32.toNatClampNeg 0 := ⟨_, rfl⟩
                    rw [← e36] at vth
                    obtain ⟨x37, e38⟩ : ∃ y : Int32, y = y4_22 + 1 := ⟨_, rfl⟩
                    refine lv_iinc (v := x37) (lv' := [(4, .int x37), (0, .ref h0), (1, .int p1), (2, .int p2), (3, .int p3)]) hx hb dX12_rack_74 hl (k := 0) rfl (by rw [e38]; rfl) (by decide) rfl (fun ls hl => ?_)
                    have t39 : x37.toInt = y4_22.toInt + 1 := by rw [e38]; exact hw_add rfl rfl (by omega) (by omega)
                    refine lv_goto (tgt := 55) hx hb dX12_rack_77 (by decide) ?_
                    exact ih55 x37 f35 (by first | omega | omega) ⟨by first | decide | omega, by first | decide | omega⟩ (by rw [e36, show x37.toInt = y4_22.toInt + 1 from by omega]; exact hw_zm_up inv55_0 hqi (by omega) (by omega)) (by omega) _ _ hH vm vla vsz vth hS _ (lv_sub hl [0, 1, 2, 3, 4] rfl)
              exact L55 _ 0 fth (Nat.lt_succ_self _) ⟨by first | decide | omega, by first | decide | omega⟩ (by intro u; exact (hw_zm_0 _ _ u).symm) (by have h3 : (0 : Int32).toInt = 0 := rfl; omega) _ _ hH vm vla vsz vth hS _ (lv_sub hl [0, 1, 2, 3, 4] rfl)
            · have b40 : p3.toInt < 0 := hw_inle c15
              refine lv_bipush (v := (-14)) hx hb dX12_rack_35 (by decide) ?_
              exact hw_iretM (v := (-14)) hx hb hr hlocks hQ hS rfl (Or.inr (Or.inr (Or.inl ⟨fla, fsz, fth, rfl, hH, vm, vla, vsz, vth, (by first | rfl | trivial | assumption | omega | (intros; first | rfl | assumption | omega | (exfalso; omega))), (by first | rfl | trivial | assumption | omega | (intros; first | rfl | assumption | omega | (exfalso; omega))), (by first | rfl | trivial | assumption | omega | (intros; first | rfl | assumption | omega | (exfalso; omega))), (by first | rfl | trivial | assumption | omega | (intros; first | rfl | assumption | omega | (exfalso; omega))), (by first | rfl | trivial | assumption | omega | (intros; first | rfl | assumption | omega | (exfalso; omega)))⟩))) dX12_rack_37
          · have b41 : 24 < p3.toInt := hw_inle c13
            refine lv_bipush (v := (-3)) hx hb dX12_rack_28 (by decide) ?_
            exact hw_iretM (v := (-3)) hx hb hr hlocks hQ hS rfl (Or.inr (Or.inl ⟨fla, fsz, fth, rfl, hH, vm, vla, vsz, vth, (by first | rfl | trivial | assumption | omega | (intros; first | rfl | assumption | omega | (exfalso; omega))), (by first | rfl | trivial | assumption | omega | (intros; first | rfl | assumption | omega | (exfalso; omega))), (by first | rfl | trivial | assumption | omega | (intros; first | rfl | assumption | omega | (exfalso; omega))), (by first | rfl | trivial | assumption | omega | (intros; first | rfl | assumption | omega | (exfalso; omega))), (by first | rfl | trivial | assumption | omega | (intros; first | rfl | assumption | omega | (exfalso; omega)))⟩)) dX12_rack_30
      · refine lv_if_eq (tgt := 28) hx hb dX12_rack_19 (by decide) (fun c42 => ?_) (fun c42 => ?_)
        · refine lv_bipush (v := (-3)) hx hb dX12_rack_28 (by decide) ?_
          exact hw_iretM (v := (-3)) hx hb hr hlocks hQ hS rfl (Or.inr (Or.inl ⟨fla, fsz, fth, rfl, hH, vm, vla, vsz, vth, (by first | rfl | trivial | assumption | omega | (intros; first | rfl | assumption | omega | (exfalso; omega))), (by first | rfl | trivial | assumption | omega | (intros; first | rfl | assumption | omega | (exfalso; omega))), (by first | rfl | trivial | assumption | omega | (intros; first | rfl | assumption | omega | (exfalso; omega))), (by first | rfl | trivial | assumption | omega | (intros; first | rfl | assumption | omega | (exfalso; omega))), (by first | rfl | trivial | assumption | omega | (intros; first | rfl | assumption | omega | (exfalso; omega)))⟩)) dX12_rack_30
        · exact absurd c42 (by decide)
    · exact absurd c3 (by decide)
  · refine lv_if_ne (tgt := 10) hx hb dX12_rack_4 (by decide) (fun c43 => ?_) (fun c43 => ?_)
    · exact absurd c43 (by decide)
    · refine lv_bipush (v := (-2)) hx hb dX12_rack_7 (by decide) ?_
      exact hw_iretM (v := (-2)) hx hb hr hlocks hQ hS rfl (Or.inl ⟨fla, fsz, fth, rfl, hH, vm, vla, vsz, vth, (by first | rfl | trivial | assumption | omega | (intros; first | rfl | assumption | omega | (exfalso; omega))), (by first | rfl | trivial | assumption | omega | (intros; first | rfl | assumption | omega | (exfalso; omega))), (by first | rfl | trivial | assumption | omega | (intros; first | rfl | assumption | omega | (exfalso; omega))), (by first | rfl | trivial | assumption | omega | (intros; first | rfl | assumption | omega | (exfalso; omega)))⟩) dX12_rack_9

set_option maxHeartbeats 4000000 in
set_option maxRecDepth 100000 in
theorem k3_X12_hang (l : Launch) (D : hw_D) (G : Nat → Nat) (h0 : Nat) (p1 : Int32) (p2 : Int32) (p3 : Int32) (p4 : Int64) (sz : Nat) (rm : Nat → Nat) (ud_m ky_m lo_m wk_m dk_m ln_m sm_m fi_m be_m rk_m rl_m rw_m cl_m dg_m : Int32) (fla : Nat → Int32) (fsz : Nat → Int32) (fth : Nat → Int64) (G0 : G h0 = 9) (Rm : hw_RM G rm) (gud_m : 0 ≤ ud_m.toInt ∧ ud_m.toInt ≤ 8) (gky_m : 0 ≤ ky_m.toInt ∧ ky_m.toInt ≤ 7) (glo_m : 0 ≤ lo_m.toInt ∧ lo_m.toInt ≤ 7) (gwk_m : 0 ≤ wk_m.toInt ∧ wk_m.toInt ≤ 3) (gln_m : 0 ≤ ln_m.toInt ∧ ln_m.toInt ≤ 200) (gsm_m : 0 ≤ sm_m.toInt ∧ sm_m.toInt ≤ 6) (gfi_m : 0 ≤ fi_m.toInt ∧ fi_m.toInt ≤ 200) (gbe_m : 0 ≤ be_m.toInt ∧ be_m.toInt ≤ 200) (grk_m : 0 ≤ rk_m.toInt ∧ rk_m.toInt ≤ 7) (grl_m : 0 ≤ rl_m.toInt ∧ rl_m.toInt ≤ 7) (grw_m : 0 ≤ rw_m.toInt ∧ rw_m.toInt ≤ 3) (gdg_m : 0 ≤ dg_m.toInt ∧ dg_m.toInt ≤ 1) (qsz : ∀ j, j < 4 → (-1) ≤ (fsz j).toInt ∧ (fsz j).toInt ≤ 24) : Met l yX12_hang wsX12_hang ({ frames := 2, cells := 0, slots := 0, locals := 45 } : Room) (hw_PC D G [.ref h0, .int p1, .int p2, .int p3, .long p4] sz (fun H => va_at D.1 vwCl (h0, .inr (11, hw_LM rm ud_m ky_m lo_m wk_m dk_m ln_m sm_m fi_m be_m rk_m rl_m rw_m cl_m dg_m)) H ∧ va_at D.1 vwCl ((rm 41), .inl (D.2.1 0, 4, .inl fla)) H ∧ va_at D.1 vwCl ((rm 42), .inl (D.2.1 0, 4, .inl fsz)) H ∧ va_at D.1 vwCl ((rm 43), .inl (D.2.1 1, 96, .inr (.inl fth))) H)) (hw_QM (fun v H => (∃ (fth2 : Nat → Int64), v = some (.int (-2)) ∧ hw_HT D G H ∧ va_at D.1 vwCl (h0, .inr (11, hw_LM rm ud_m ky_m lo_m wk_m dk_m ln_m sm_m fi_m be_m rk_m rl_m rw_m cl_m dg_m)) H ∧ va_at D.1 vwCl ((rm 41), .inl (D.2.1 0, 4, .inl fla)) H ∧ va_at D.1 vwCl ((rm 42), .inl (D.2.1 0, 4, .inl fsz)) H ∧ va_at D.1 vwCl ((rm 43), .inl (D.2.1 1, 96, .inr (.inl fth2))) H ∧ ((p1.toInt < 0 ∨ 3 < p1.toInt)) ∧ fth2 = fth) ∨ (∃ (fth2 : Nat → Int64), v = some (.int (-3)) ∧ hw_HT D G H ∧ va_at D.1 vwCl (h0, .inr (11, hw_LM rm ud_m ky_m lo_m wk_m dk_m ln_m sm_m fi_m be_m rk_m rl_m rw_m cl_m dg_m)) H ∧ va_at D.1 vwCl ((rm 41), .inl (D.2.1 0, 4, .inl fla)) H ∧ va_at D.1 vwCl ((rm 42), .inl (D.2.1 0, 4, .inl fsz)) H ∧ va_at D.1 vwCl ((rm 43), .inl (D.2.1 1, 96, .inr (.inl fth2))) H ∧ ((0 ≤ p1.toInt ∧ p1.toInt ≤ 3)) ∧ (p2.toInt < 0 ∨ 4 < p2.toInt) ∧ fth2 = fth) ∨ (∃ (fth2 : Nat → Int64), v = some (.int (-11)) ∧ hw_HT D G H ∧ va_at D.1 vwCl (h0, .inr (11, hw_LM rm ud_m ky_m lo_m wk_m dk_m ln_m sm_m fi_m be_m rk_m rl_m rw_m cl_m dg_m)) H ∧ va_at D.1 vwCl ((rm 41), .inl (D.2.1 0, 4, .inl fla)) H ∧ va_at D.1 vwCl ((rm 42), .inl (D.2.1 0, 4, .inl fsz)) H ∧ va_at D.1 vwCl ((rm 43), .inl (D.2.1 1, 96, .inr (.inl fth2))) H ∧ ((0 ≤ p1.toInt ∧ p1.toInt ≤ 3)) ∧ (0 ≤ p2.toInt ∧ p2.toInt ≤ 4) ∧ (fsz p1.toNatClampNeg).toInt < 0 ∧ fth2 = fth) ∨ (∃ (fth2 : Nat → Int64), v = some (.int (-12)) ∧ hw_HT D G H ∧ va_at D.1 vwCl (h0, .inr (11, hw_LM rm ud_m ky_m lo_m wk_m dk_m ln_m sm_m fi_m be_m rk_m rl_m rw_m cl_m dg_m)) H ∧ va_at D.1 vwCl ((rm 41), .inl (D.2.1 0, 4, .inl fla)) H ∧ va_at D.1 vwCl ((rm 42), .inl (D.2.1 0, 4, .inl fsz)) H ∧ va_at D.1 vwCl ((rm 43), .inl (D.2.1 1, 96, .inr (.inl fth2))) H ∧ ((0 ≤ p1.toInt ∧ p1.toInt ≤ 3)) ∧ (0 ≤ p2.toInt ∧ p2.toInt ≤ 4) ∧ 0 ≤ (fsz p1.toNatClampNeg).toInt ∧ (fla p1.toNatClampNeg).toInt ≠ p2.toInt ∧ fth2 = fth) ∨ (∃ (fth2 : Nat → Int64), v = some (.int (-13)) ∧ hw_HT D G H ∧ va_at D.1 vwCl (h0, .inr (11, hw_LM rm ud_m ky_m lo_m wk_m dk_m ln_m sm_m fi_m be_m rk_m rl_m rw_m cl_m dg_m)) H ∧ va_at D.1 vwCl ((rm 41), .inl (D.2.1 0, 4, .inl fla)) H ∧ va_at D.1 vwCl ((rm 42), .inl (D.2.1 0, 4, .inl fsz)) H ∧ va_at D.1 vwCl ((rm 43), .inl (D.2.1 1, 96, .inr (.inl fth2))) H ∧ ((0 ≤ p1.toInt ∧ p1.toInt ≤ 3)) ∧ (0 ≤ p2.toInt ∧ p2.toInt ≤ 4) ∧ 0 ≤ (fsz p1.toNatClampNeg).toInt ∧ (fla p1.toNatClampNeg).toInt = p2.toInt ∧ (p3.toInt < 0 ∨ (fsz p1.toNatClampNeg).toInt < p3.toInt + 1) ∧ fth2 = fth) ∨ (∃ (fth2 : Nat → Int64), v = some (.int 1) ∧ hw_HT D G H ∧ va_at D.1 vwCl (h0, .inr (11, hw_LM rm ud_m ky_m lo_m wk_m dk_m ln_m sm_m fi_m be_m rk_m rl_m rw_m cl_m dg_m)) H ∧ va_at D.1 vwCl ((rm 41), .inl (D.2.1 0, 4, .inl fla)) H ∧ va_at D.1 vwCl ((rm 42), .inl (D.2.1 0, 4, .inl fsz)) H ∧ va_at D.1 vwCl ((rm 43), .inl (D.2.1 1, 96, .inr (.inl fth2))) H ∧ ((0 ≤ p1.toInt ∧ p1.toInt ≤ 3)) ∧ (0 ≤ p2.toInt ∧ p2.toInt ≤ 4) ∧ 0 ≤ (fsz p1.toNatClampNeg).toInt ∧ (fla p1.toNatClampNeg).toInt = p2.toInt ∧ (0 ≤ p3.toInt ∧ p3.toInt + 1 ≤ (fsz p1.toNatClampNeg).toInt) ∧ (p2.toInt = 2 → fth2 = vp_updL fth (24 * p1.toInt + p3.toInt).toNat p4.toInt32.toInt64) ∧ (∀ u : Nat, (u : Int) < 24 * p1.toInt ∨ 24 * p1.toInt + 24 ≤ (u : Int) → fth2 u = fth u))) (hw_AW G [83] sz)) 0 0 (hw_AW G [83] sz) := by
  refine hw_met (cc := cX12_hang) (maxL := 7) (ret := (some .int)) (plainFor_of_name (by decide)) rfl (Nat.le_of_ble_eq_true rfl) ?_
  intro p e s m args below meth c QQ ls hsz hx hb hml hr hts hown hlocks hnm hH hK hST hF hQ hl
  subst hsz
  have hS : va_S (hw_AW G [83] s.heap.size) s.heap s.heap [] := va_S.rf
  obtain ⟨vm, vla, vsz, vth⟩ := hF
  have hl : lv_has ls 7 [(0, .ref h0), (1, .int p1), (2, .int p2), (3, .int p3), (4, .long p4)] := hl
  have u_11 : ∀ w ∈ u_ws RX12 TX12 45, w.before args s = true := fun w hw => hts w ((by decide +kernel : ∀ w ∈ u_ws RX12 TX12 45, w ∈ wsX12_hang) w hw)
  have fg_102_11 : hw_FG s args m 102 11 43 := ⟨RX12, "WardWalkersModel", RX12, TX12, 45, u_11, hown, rfl, by decide, (hts (.fieldLink RX12 102 "WardWalkersModel" "things" "[J") (by decide +kernel)), (fun _ h9 => h9)⟩
  refine lv_iload_n hx hb dX12_hang_0 rfl (lv_at hl 1 rfl) ?_
  refine hw_cR (va_runS (As := [.int p1]) (rest := []) ⟨hx, hb, hml, hown, hts⟩ (k_X12_isRack l D G p1 _) (va_cwS 1 hts gX12_hang_X12_isRack rfl rfl rfl (by decide +kernel) ⟨Nat.le_of_ble_eq_true rfl, Nat.le_of_ble_eq_true rfl⟩) (hw_pS hH hK hST hS (by decide) (fun _ h => Or.inl h) trivial) rfl rfl hl.1 rfl (lv_room (Nat.le_of_ble_eq_true rfl)) dX12_hang_1 ⟨Nat.le_of_ble_eq_true rfl, Nat.le_of_ble_eq_true rfl⟩) (fun v hp => ?_)
  rcases hp with ⟨rfl, q1⟩ | ⟨rfl, q2⟩
  · refine lv_if_ne (tgt := 10) hx hb dX12_hang_4 (by decide) (fun c3 => ?_) (fun c3 => ?_)
    · refine lv_iload_n hx hb dX12_hang_10 rfl (lv_at hl 2 rfl) ?_
      refine lv_i2l hx hb dX12_hang_11 rfl ?_
      refine lv_topl (fun x4 e5 => ?_)
      have t6 : x4.toInt = p2.toInt := by rw [e5]; exact hw_i2l _
      have rg7 := hw_rng p2
      refine lv_lconst (v := 0) hx hb dX12_hang_12 (by decide) ?_
      refine lv_ldc2 (v := 4) hx hb hown (hts (.constantLong RX12 252 (4)) (by decide +kernel)) dX12_hang_13 ?_
      refine hw_cR (va_runS (As := [.long x4, .long 0, .long 4]) (rest := []) ⟨hx, hb, hml, hown, hts⟩ (k_X12_in l D G x4 0 4 _) (va_cwS 3 hts gX12_hang_X12_in rfl rfl rfl (by decide +kernel) ⟨Nat.le_of_ble_eq_true rfl, Nat.le_of_ble_eq_true rfl⟩) (hw_pS hH hK hST hS (by decide) (fun _ h => Or.inl h) trivial) rfl rfl hl.1 rfl (lv_room (Nat.le_of_ble_eq_true rfl)) dX12_hang_16 ⟨Nat.le_of_ble_eq_true rfl, Nat.le_of_ble_eq_true rfl⟩) (fun v hp => ?_)
      have l8 : (0 : Int64).toInt = 0 := by decide
      have l9 : (4 : Int64).toInt = 4 := by decide
      rcases hp with ⟨rfl, q10⟩ | ⟨rfl, q11⟩
      · refine lv_if_ne (tgt := 25) hx hb dX12_hang_19 (by decide) (fun c12 => ?_) (fun c12 => ?_)
        · refine lv_aload_n hx hb dX12_hang_25 rfl (lv_at hl 0 rfl) ?_
          refine lv_iload_n hx hb dX12_hang_26 rfl (lv_at hl 1 rfl) ?_
          refine lv_iload_n hx hb dX12_hang_27 rfl (lv_at hl 2 rfl) ?_
          refine hw_cR (va_runV (As := [.int p1, .int p2]) (rest := []) ⟨hx, hb, hml, hown, hts⟩ (k_X12_noRack l D G h0 p1 p2 _ rm ud_m ky_m lo_m wk_m dk_m ln_m sm_m fi_m be_m rk_m rl_m rw_m cl_m dg_m fla fsz G0 Rm ⟨by first | decide | omega, by first | decide | omega⟩ ⟨by first | decide | omega, by first | decide | omega⟩ ⟨by first | decide | omega, by first | decide | omega⟩ ⟨by first | decide | omega, by first | decide | omega⟩ ⟨by first | decide | omega, by first | decide | omega⟩ ⟨by first | decide | omega, by first | decide | omega⟩ ⟨by first | decide | omega, by first | decide | omega⟩ ⟨by first | decide | omega, by first | decide | omega⟩ ⟨by first | decide | omega, by first | decide | omega⟩ ⟨by first | decide | omega, by first | decide | omega⟩ ⟨by first | decide | omega, by first | decide | omega⟩ ⟨by first | decide | omega, by first | decide | omega⟩ qsz (by first | assumption | decide | omega)) (cwV 2 hts gX12_hang_X12_noRack rfl rfl rfl (by decide +kernel) ⟨Nat.le_of_ble_eq_true rfl, Nat.le_of_ble_eq_true rfl⟩) (hw_pV (hw_rc (q := (RX12, TX12, 45)) hK vm rfl) hH hK hST hS (by decide) (fun _ h => Or.inl h) ⟨vm, vla, vsz⟩) rfl rfl hl.1 rfl (lv_room (Nat.le_of_ble_eq_true rfl)) dX12_hang_28 ⟨Nat.le_of_ble_eq_true rfl, Nat.le_of_ble_eq_true rfl⟩) (fun v hp => ?_)
          rcases hp with ⟨rfl, q13⟩ | ⟨rfl, q14, q15⟩ | ⟨rfl, q16, q17⟩
          · refine lv_istore (lv' := [(6, .int (-11)), (0, .ref h0), (1, .int p1), (2, .int p2), (3, .int p3), (4, .long p4)]) hx hb dX12_hang_31 hl (by decide) rfl (fun ls hl => ?_)
            refine lv_iload hx hb dX12_hang_33 (lv_at hl 0 rfl) ?_
            refine lv_if_eq (tgt := 41) hx hb dX12_hang_35 (by decide) (fun c18 => ?_) (fun c18 => ?_)
            · exact absurd c18 (by decide)
            · refine lv_iload hx hb dX12_hang_38 (lv_at hl 0 rfl) ?_
              exact hw_iretM (v := (-11)) hx hb hr hlocks hQ hS rfl (Or.inr (Or.inr (Or.inl ⟨fth, rfl, hH, vm, vla, vsz, vth, (by first | rfl | trivial | assumption | omega | (intros; first | rfl | assumption | omega | (exfalso; omega))), (by first | rfl | trivial | assumption | omega | (intros; first | rfl | assumption | omega | (exfalso; omega))), (by first | rfl | trivial | assumption | omega | (intros; first | rfl | assumption | omega | (exfalso; omega))), (by first | rfl | trivial | assumption | omega | (intros; first | rfl | assumption | omega | (exfalso; omega)))⟩))) dX12_hang_40
          · refine lv_istore (lv' := [(6, .int (-12)), (0, .ref h0), (1, .int p1), (2, .int p2), (3, .int p3), (4, .long p4)]) hx hb dX12_hang_31 hl (by decide) rfl (fun ls hl => ?_)
            refine lv_iload hx hb dX12_hang_33 (lv_at hl 0 rfl) ?_
            refine lv_if_eq (tgt := 41) hx hb dX12_hang_35 (by decide) (fun c19 => ?_) (fun c19 => ?_)
            · exact absurd c19 (by decide)
            · refine lv_iload hx hb dX12_hang_38 (lv_at hl 0 rfl) ?_
              exact hw_iretM (v := (-12)) hx hb hr hlocks hQ hS rfl (Or.inr (Or.inr (Or.inr (Or.inl ⟨fth, rfl, hH, vm, vla, vsz, vth, (by first | rfl | trivial | assumption | omega | (intros; first | rfl | assumption | omega | (exfalso; omega))), (by first | rfl | trivial | assumption | omega | (intros; first | rfl | assumption | omega | (exfalso; omega))), (by first | rfl | trivial | assumption | omega | (intros; first | rfl | assumption | omega | (exfalso; omega))), (by first | rfl | trivial | assumption | omega | (intros; first | rfl | assumption | omega | (exfalso; omega))), (by first | rfl | trivial | assumption | omega | (intros; first | rfl | assumption | omega | (exfalso; omega)))⟩)))) dX12_hang_40
          · refine lv_istore (lv' := [(6, .int 0), (0, .ref h0), (1, .int p1), (2, .int p2), (3, .int p3), (4, .long p4)]) hx hb dX12_hang_31 hl (by decide) rfl (fun ls hl => ?_)
            refine lv_iload hx hb dX12_hang_33 (lv_at hl 0 rfl) ?_
            refine lv_if_eq (tgt := 41) hx hb dX12_hang_35 (by decide) (fun c20 => ?_) (fun c20 => ?_)
            · refine lv_aload_n hx hb dX12_hang_41 rfl (lv_at hl 1 rfl) ?_
              refine lv_iload_n hx hb dX12_hang_42 rfl (lv_at hl 2 rfl) ?_
              refine lv_iload_n hx hb dX12_hang_43 rfl (lv_at hl 4 rfl) ?_
              refine lv_iconst (v := 1) hx hb dX12_hang_44 (by decide) ?_
              refine hw_cR (va_runV (As := [.int p1, .int p3, .int 1]) (rest := []) ⟨hx, hb, hml, hown, hts⟩ (k_X12_isSpan l D G h0 p1 p3 1 _ rm ud_m ky_m lo_m wk_m dk_m ln_m sm_m fi_m be_m rk_m rl_m rw_m cl_m dg_m fsz G0 Rm ⟨by first | decide | omega, by first | decide | omega⟩ ⟨by first | decide | omega, by first | decide | omega⟩ ⟨by first | decide | omega, by first | decide | omega⟩ ⟨by first | decide | omega, by first | decide | omega⟩ ⟨by first | decide | omega, by first | decide | omega⟩ ⟨by first | decide | omega, by first | decide | omega⟩ ⟨by first | decide | omega, by first | decide | omega⟩ ⟨by first | decide | omega, by first | decide | omega⟩ ⟨by first | decide | omega, by first | decide | omega⟩ ⟨by first | decide | omega, by first | decide | omega⟩ ⟨by first | decide | omega, by first | decide | omega⟩ ⟨by first | decide | omega, by first | decide | omega⟩ qsz (by first | assumption | decide | omega)) (cwV 3 hts gX12_hang_X12_isSpan rfl rfl rfl (by decide +kernel) ⟨Nat.le_of_ble_eq_true rfl, Nat.le_of_ble_eq_true rfl⟩) (hw_pV (hw_rc (q := (RX12, TX12, 45)) hK vm rfl) hH hK hST hS (by decide) (fun _ h => Or.inl h) ⟨vm, vsz⟩) rfl rfl hl.1 rfl (lv_room (Nat.le_of_ble_eq_true rfl)) dX12_hang_45 ⟨Nat.le_of_ble_eq_true rfl, Nat.le_of_ble_eq_true rfl⟩) (fun v hp => ?_)
              have l21 : (1 : Int32).toInt = 1 := rfl
              rcases hp with ⟨rfl, q22⟩ | ⟨rfl, q23⟩
              · refine lv_if_ne (tgt := 54) hx hb dX12_hang_48 (by decide) (fun c24 => ?_) (fun c24 => ?_)
                · have hs24 := qsz p1.toNatClampNeg (hw_i4 (by omega))
                  refine lv_aload_n hx hb dX12_hang_54 rfl (lv_at hl 1 rfl) ?_
                  refine hw_get hx hb fg_102_11 hK vm rfl dX12_hang_55 ?_
                  refine lv_bipush (v := 24) hx hb dX12_hang_58 (by decide) ?_
                  refine lv_iload_n hx hb dX12_hang_60 rfl (lv_at hl 2 rfl) ?_
                  refine lv_imul hx hb dX12_hang_61 ?_
                  refine lv_topi (fun x25 e26 => ?_)
                  have t27 : x25.toInt = 24 * p1.toInt := by rw [e26]; exact hw_mul rfl rfl (by omega) (by omega)
                  refine lv_iload_n hx hb dX12_hang_62 rfl (lv_at hl 4 rfl) ?_
                  refine lv_iadd hx hb dX12_hang_63 ?_
                  refine lv_topi (fun x28 e29 => ?_)
                  have t30 : x28.toInt = x25.toInt + p3.toInt := by rw [e29]; exact hw_add rfl rfl (by omega) (by omega)
                  have hqi : x28.toNatClampNeg = (24 * p1.toInt + p3.toInt).toNat := by rw [hw_tc]; omega
                  refine lv_iload_n hx hb dX12_hang_64 rfl (lv_at hl 3 rfl) ?_
                  refine lv_lload hx hb dX12_hang_65 (lv_at hl 5 rfl) ?_
                  refine hw_cR (va_runS (As := [.int p2, .long p4]) (rest := [.int x28, .ref (rm 43)]) ⟨hx, hb, hml, hown, hts⟩ (k3_X12_cut l D G p2 p4 _) (va_cwS 2 hts gX12_hang_X12_cut rfl rfl rfl (by decide +kernel) ⟨Nat.le_of_ble_eq_true rfl, Nat.le_of_ble_eq_true rfl⟩) (hw_pS hH hK hST hS (by decide) (fun _ h => Or.inl h) trivial) rfl rfl hl.1 rfl (lv_room (Nat.le_of_ble_eq_true rfl)) dX12_hang_67 ⟨Nat.le_of_ble_eq_true rfl, Nat.le_of_ble_eq_true rfl⟩) (fun v hp => ?_)
                  obtain ⟨x31, rfl, q32⟩ := hp
                  have hcd := q32
                  refine hw_last hx hb hK hH vth (hw_in (by omega) (by omega)) (fun _ => by rw [(hw_RM_43 Rm)]; exact ⟨_, rfl⟩) hS (hw_AWi (hw_RM_43 Rm) (by decide)) dX12_hang_70 (fun H locs hH vth oq hz hS => ?_)
                  have vm := va_at.kept vm (oq _ (hw_ne G0 (hw_RM_43 Rm) (by decide)))
                  have vla := va_at.kept vla (oq _ (hw_ne (hw_RM_41 Rm) (hw_RM_43 Rm) (by decide)))
                  have vsz := va_at.kept vsz (oq _ (hw_ne (hw_RM_42 Rm) (hw_RM_43 Rm) (by decide)))
                  obtain ⟨f33, e34⟩ : ∃ z, z = vp_updL fth x28.toNatClampNeg x31 := ⟨_, rfl⟩
                  rw [← e34] at vth
                  refine lv_iconst (v := 1) hx hb dX12_hang_71 (by decide) ?_
                  exact hw_iretM (v := 1) hx hb hr hlocks hQ hS rfl (Or.inr (Or.inr (Or.inr (Or.inr (Or.inr (⟨f33, rfl, hH, vm, vla, vsz, vth, (by first | rfl | trivial | assumption | omega | (intros; first | rfl | assumption | omega | (exfalso; omega))), (by first | rfl | trivial | assumption | omega | (intros; first | rfl | assumption | omega | (exfalso; omega))), (by first | rfl | trivial | assumption | omega | (intros; first | rfl | assumption | omega | (exfalso; omega))), (by first | rfl | trivial | assumption | omega | (intros; first | rfl | assumption | omega | (exfalso; omega))), (by first | rfl | trivial | assumption | omega | (intros; first | rfl | assumption | omega | (exfalso; omega))), (by intro h9; rw [e34, hqi, hcd h9]), (by intro u hu; rw [e34, hqi]; exact hw_updL_ne _ (by omega))⟩)))))) dX12_hang_72
                · exact absurd c24 (by decide)
              · refine lv_if_ne (tgt := 54) hx hb dX12_hang_48 (by decide) (fun c35 => ?_) (fun c35 => ?_)
                · exact absurd c35 (by decide)
                · refine lv_bipush (v := (-13)) hx hb dX12_hang_51 (by decide) ?_
                  exact hw_iretM (v := (-13)) hx hb hr hlocks hQ hS rfl (Or.inr (Or.inr (Or.inr (Or.inr (Or.inl ⟨fth, rfl, hH, vm, vla, vsz, vth, (by first | rfl | trivial | assumption | omega | (intros; first | rfl | assumption | omega | (exfalso; omega))), (by first | rfl | trivial | assumption | omega | (intros; first | rfl | assumption | omega | (exfalso; omega))), (by first | rfl | trivial | assumption | omega | (intros; first | rfl | assumption | omega | (exfalso; omega))), (by first | rfl | trivial | assumption | omega | (intros; first | rfl | assumption | omega | (exfalso; omega))), (by first | rfl | trivial | assumption | omega | (intros; first | rfl | assumption | omega | (exfalso; omega))), (by first | rfl | trivial | assumption | omega | (intros; first | rfl | assumption | omega | (exfalso; omega)))⟩))))) dX12_hang_53
            · exact absurd c20 (by decide)
        · exact absurd c12 (by decide)
      · refine lv_if_ne (tgt := 25) hx hb dX12_hang_19 (by decide) (fun c36 => ?_) (fun c36 => ?_)
        · exact absurd c36 (by decide)
        · refine lv_bipush (v := (-3)) hx hb dX12_hang_22 (by decide) ?_
          exact hw_iretM (v := (-3)) hx hb hr hlocks hQ hS rfl (Or.inr (Or.inl ⟨fth, rfl, hH, vm, vla, vsz, vth, (by first | rfl | trivial | assumption | omega | (intros; first | rfl | assumption | omega | (exfalso; omega))), (by first | rfl | trivial | assumption | omega | (intros; first | rfl | assumption | omega | (exfalso; omega))), (by first | rfl | trivial | assumption | omega | (intros; first | rfl | assumption | omega | (exfalso; omega)))⟩)) dX12_hang_24
    · exact absurd c3 (by decide)
  · refine lv_if_ne (tgt := 10) hx hb dX12_hang_4 (by decide) (fun c37 => ?_) (fun c37 => ?_)
    · exact absurd c37 (by decide)
    · refine lv_bipush (v := (-2)) hx hb dX12_hang_7 (by decide) ?_
      exact hw_iretM (v := (-2)) hx hb hr hlocks hQ hS rfl (Or.inl ⟨fth, rfl, hH, vm, vla, vsz, vth, (by first | rfl | trivial | assumption | omega | (intros; first | rfl | assumption | omega | (exfalso; omega))), (by first | rfl | trivial | assumption | omega | (intros; first | rfl | assumption | omega | (exfalso; omega)))⟩) dX12_hang_9

set_option maxHeartbeats 4000000 in
set_option maxRecDepth 100000 in
theorem k3_X12_copy (l : Launch) (D : hw_D) (G : Nat → Nat) (h0 : Nat) (p1 : Int32) (p2 : Int32) (p3 : Int32) (p4 : Int32) (p5 : Int32) (sz : Nat) (rm : Nat → Nat) (ud_m ky_m lo_m wk_m dk_m ln_m sm_m fi_m be_m rk_m rl_m rw_m cl_m dg_m : Int32) (fla : Nat → Int32) (fsz : Nat → Int32) (fth : Nat → Int64) (fhd : Nat → Int64) (G0 : G h0 = 9) (Rm : hw_RM G rm) (gud_m : 0 ≤ ud_m.toInt ∧ ud_m.toInt ≤ 8) (gky_m : 0 ≤ ky_m.toInt ∧ ky_m.toInt ≤ 7) (glo_m : 0 ≤ lo_m.toInt ∧ lo_m.toInt ≤ 7) (gwk_m : 0 ≤ wk_m.toInt ∧ wk_m.toInt ≤ 3) (gln_m : 0 ≤ ln_m.toInt ∧ ln_m.toInt ≤ 200) (gsm_m : 0 ≤ sm_m.toInt ∧ sm_m.toInt ≤ 6) (gfi_m : 0 ≤ fi_m.toInt ∧ fi_m.toInt ≤ 200) (gbe_m : 0 ≤ be_m.toInt ∧ be_m.toInt ≤ 200) (grk_m : 0 ≤ rk_m.toInt ∧ rk_m.toInt ≤ 7) (grl_m : 0 ≤ rl_m.toInt ∧ rl_m.toInt ≤ 7) (grw_m : 0 ≤ rw_m.toInt ∧ rw_m.toInt ≤ 3) (gdg_m : 0 ≤ dg_m.toInt ∧ dg_m.toInt ≤ 1) (qsz : ∀ j, j < 4 → (-1) ≤ (fsz j).toInt ∧ (fsz j).toInt ≤ 24) : Met l yX12_copy wsX12_copy ({ frames := 2, cells := 0, slots := 0, locals := 45 } : Room) (hw_PC D G [.ref h0, .int p1, .int p2, .int p3, .int p4, .int p5] sz (fun H => va_at D.1 vwCl (h0, .inr (11, hw_LM rm ud_m ky_m lo_m wk_m dk_m ln_m sm_m fi_m be_m rk_m rl_m rw_m cl_m dg_m)) H ∧ va_at D.1 vwCl ((rm 41), .inl (D.2.1 0, 4, .inl fla)) H ∧ va_at D.1 vwCl ((rm 42), .inl (D.2.1 0, 4, .inl fsz)) H ∧ va_at D.1 vwCl ((rm 43), .inl (D.2.1 1, 96, .inr (.inl fth))) H ∧ va_at D.1 vwCl ((rm 44), .inl (D.2.1 1, 24, .inr (.inl fhd))) H)) (hw_QM (fun v H => (∃ (fth2 : Nat → Int64) (fhd2 : Nat → Int64), v = some (.int (-2)) ∧ hw_HT D G H ∧ va_at D.1 vwCl (h0, .inr (11, hw_LM rm ud_m ky_m lo_m wk_m dk_m ln_m sm_m fi_m be_m rk_m rl_m rw_m cl_m dg_m)) H ∧ va_at D.1 vwCl ((rm 41), .inl (D.2.1 0, 4, .inl fla)) H ∧ va_at D.1 vwCl ((rm 42), .inl (D.2.1 0, 4, .inl fsz)) H ∧ va_at D.1 vwCl ((rm 43), .inl (D.2.1 1, 96, .inr (.inl fth2))) H ∧ va_at D.1 vwCl ((rm 44), .inl (D.2.1 1, 24, .inr (.inl fhd2))) H ∧ ((p1.toInt < 0 ∨ 3 < p1.toInt) ∨ (p3.toInt < 0 ∨ 3 < p3.toInt)) ∧ fth2 = fth) ∨ (∃ (fth2 : Nat → Int64) (fhd2 : Nat → Int64), v = some (.int (-11)) ∧ hw_HT D G H ∧ va_at D.1 vwCl (h0, .inr (11, hw_LM rm ud_m ky_m lo_m wk_m dk_m ln_m sm_m fi_m be_m rk_m rl_m rw_m cl_m dg_m)) H ∧ va_at D.1 vwCl ((rm 41), .inl (D.2.1 0, 4, .inl fla)) H ∧ va_at D.1 vwCl ((rm 42), .inl (D.2.1 0, 4, .inl fsz)) H ∧ va_at D.1 vwCl ((rm 43), .inl (D.2.1 1, 96, .inr (.inl fth2))) H ∧ va_at D.1 vwCl ((rm 44), .inl (D.2.1 1, 24, .inr (.inl fhd2))) H ∧ ((0 ≤ p1.toInt ∧ p1.toInt ≤ 3)) ∧ ((0 ≤ p3.toInt ∧ p3.toInt ≤ 3)) ∧ ((fsz p1.toNatClampNeg).toInt < 0 ∨ (fsz p3.toNatClampNeg).toInt < 0) ∧ fth2 = fth) ∨ (∃ (fth2 : Nat → Int64) (fhd2 : Nat → Int64), v = some (.int (-15)) ∧ hw_HT D G H ∧ va_at D.1 vwCl (h0, .inr (11, hw_LM rm ud_m ky_m lo_m wk_m dk_m ln_m sm_m fi_m be_m rk_m rl_m rw_m cl_m dg_m)) H ∧ va_at D.1 vwCl ((rm 41), .inl (D.2.1 0, 4, .inl fla)) H ∧ va_at D.1 vwCl ((rm 42), .inl (D.2.1 0, 4, .inl fsz)) H ∧ va_at D.1 vwCl ((rm 43), .inl (D.2.1 1, 96, .inr (.inl fth2))) H ∧ va_at D.1 vwCl ((rm 44), .inl (D.2.1 1, 24, .inr (.inl fhd2))) H ∧ ((0 ≤ p1.toInt ∧ p1.toInt ≤ 3)) ∧ ((0 ≤ p3.toInt ∧ p3.toInt ≤ 3)) ∧ 0 ≤ (fsz p1.toNatClampNeg).toInt ∧ 0 ≤ (fsz p3.toNatClampNeg).toInt ∧ (fla p1.toNatClampNeg).toInt ≠ (fla p3.toNatClampNeg).toInt ∧ fth2 = fth) ∨ (∃ (fth2 : Nat → Int64) (fhd2 : Nat → Int64), v = some (.int (-13)) ∧ hw_HT D G H ∧ va_at D.1 vwCl (h0, .inr (11, hw_LM rm ud_m ky_m lo_m wk_m dk_m ln_m sm_m fi_m be_m rk_m rl_m rw_m cl_m dg_m)) H ∧ va_at D.1 vwCl ((rm 41), .inl (D.2.1 0, 4, .inl fla)) H ∧ va_at D.1 vwCl ((rm 42), .inl (D.2.1 0, 4, .inl fsz)) H ∧ va_at D.1 vwCl ((rm 43), .inl (D.2.1 1, 96, .inr (.inl fth2))) H ∧ va_at D.1 vwCl ((rm 44), .inl (D.2.1 1, 24, .inr (.inl fhd2))) H ∧ ((0 ≤ p1.toInt ∧ p1.toInt ≤ 3)) ∧ ((0 ≤ p3.toInt ∧ p3.toInt ≤ 3)) ∧ 0 ≤ (fsz p1.toNatClampNeg).toInt ∧ 0 ≤ (fsz p3.toNatClampNeg).toInt ∧ (fla p1.toNatClampNeg).toInt = (fla p3.toNatClampNeg).toInt ∧ (p5.toInt < 0 ∨ p2.toInt < 0 ∨ p4.toInt < 0 ∨ (fsz p1.toNatClampNeg).toInt < p2.toInt + p5.toInt ∨ (fsz p3.toNatClampNeg).toInt < p4.toInt + p5.toInt) ∧ fth2 = fth) ∨ (∃ (r : Int32) (fth2 : Nat → Int64) (fhd2 : Nat → Int64), v = some (.int r) ∧ hw_HT D G H ∧ va_at D.1 vwCl (h0, .inr (11, hw_LM rm ud_m ky_m lo_m wk_m dk_m ln_m sm_m fi_m be_m rk_m rl_m rw_m cl_m dg_m)) H ∧ va_at D.1 vwCl ((rm 41), .inl (D.2.1 0, 4, .inl fla)) H ∧ va_at D.1 vwCl ((rm 42), .inl (D.2.1 0, 4, .inl fsz)) H ∧ va_at D.1 vwCl ((rm 43), .inl (D.2.1 1, 96, .inr (.inl fth2))) H ∧ va_at D.1 vwCl ((rm 44), .inl (D.2.1 1, 24, .inr (.inl fhd2))) H ∧ ((0 ≤ p1.toInt ∧ p1.toInt ≤ 3)) ∧ ((0 ≤ p3.toInt ∧ p3.toInt ≤ 3)) ∧ 0 ≤ (fsz p1.toNatClampNeg).toInt ∧ 0 ≤ (fsz p3.toNatClampNeg).toInt ∧ (fla p1.toNatClampNeg).toInt = (fla p3.toNatClampNeg).toInt ∧ (0 ≤ p5.toInt ∧ 0 ≤ p2.toInt ∧ 0 ≤ p4.toInt ∧ p2.toInt + p5.toInt ≤ (fsz p1.toNatClampNeg).toInt ∧ p4.toInt + p5.toInt ≤ (fsz p3.toNatClampNeg).toInt) ∧ r = p5 ∧ (∀ u : Nat, fth2 u = hw_mv fth fth (24 * p1.toInt + p2.toInt) (24 * p3.toInt + p4.toInt) p5.toInt u))) (hw_AW G [83, 84] sz)) 0 0 (hw_AW G [83, 84] sz) := by
  refine hw_met (cc := cX12_copy) (maxL := 7) (ret := (some .int)) (plainFor_of_name (by decide)) rfl (Nat.le_of_ble_eq_true rfl) ?_
  intro p e s m args below meth c QQ ls hsz hx hb hml hr hts hown hlocks hnm hH hK hST hF hQ hl
  subst hsz
  have hS : va_S (hw_AW G [83, 84] s.heap.size) s.heap s.heap [] := va_S.rf
  obtain ⟨vm, vla, vsz, vth, vhd⟩ := hF
  have hl : lv_has ls 7 [(0, .ref h0), (1, .int p1), (2, .int p2), (3, .int p3), (4, .int p4), (5, .int p5)] := hl
  have u_11 : ∀ w ∈ u_ws RX12 TX12 45, w.before args s = true := fun w hw => hts w ((by decide +kernel : ∀ w ∈ u_ws RX12 TX12 45, w ∈ wsX12_copy) w hw)
  have fg_99_11 : hw_FG s args m 99 11 42 := ⟨RX12, "WardWalkersModel", RX12, TX12, 45, u_11, hown, rfl, by decide, (hts (.fieldLink RX12 99 "WardWalkersModel" "sizes" "[I") (by decide +kernel)), (fun _ h9 => h9)⟩
  have fg_96_11 : hw_FG s args m 96 11 41 := ⟨RX12, "WardWalkersModel", RX12, TX12, 45, u_11, hown, rfl, by decide, (hts (.fieldLink RX12 96 "WardWalkersModel" "lanes" "[I") (by decide +kernel)), (fun _ h9 => h9)⟩
  have fg_102_11 : hw_FG s args m 102 11 43 := ⟨RX12, "WardWalkersModel", RX12, TX12, 45, u_11, hown, rfl, by decide, (hts (.fieldLink RX12 102 "WardWalkersModel" "things" "[J") (by decide +kernel)), (fun _ h9 => h9)⟩
  have fg_106_11 : hw_FG s args m 106 11 44 := ⟨RX12, "WardWalkersModel", RX12, TX12, 45, u_11, hown, rfl, by decide, (hts (.fieldLink RX12 106 "WardWalkersModel" "held" "[J") (by decide +kernel)), (fun _ h9 => h9)⟩
  refine lv_iload_n hx hb dX12_copy_0 rfl (lv_at hl 1 rfl) ?_
  refine hw_cR (va_runS (As := [.int p1]) (rest := []) ⟨hx, hb, hml, hown, hts⟩ (k_X12_isRack l D G p1 _) (va_cwS 1 hts gX12_copy_X12_isRack rfl rfl rfl (by decide +kernel) ⟨Nat.le_of_ble_eq_true rfl, Nat.le_of_ble_eq_true rfl⟩) (hw_pS hH hK hST hS (by decide) (fun _ h => Or.inl h) trivial) rfl rfl hl.1 rfl (lv_room (Nat.le_of_ble_eq_true rfl)) dX12_copy_1 ⟨Nat.le_of_ble_eq_true rfl, Nat.le_of_ble_eq_true rfl⟩) (fun v hp => ?_)
  rcases hp with ⟨rfl, q1⟩ | ⟨rfl, q2⟩
  · refine lv_if_eq (tgt := 14) hx hb dX12_copy_4 (by decide) (fun c3 => ?_) (fun c3 => ?_)
    · exact absurd c3 (by decide)
    · refine lv_iload_n hx hb dX12_copy_7 rfl (lv_at hl 3 rfl) ?_
      refine hw_cR (va_runS (As := [.int p3]) (rest := []) ⟨hx, hb, hml, hown, hts⟩ (k_X12_isRack l D G p3 _) (va_cwS 1 hts gX12_copy_X12_isRack rfl rfl rfl (by decide +kernel) ⟨Nat.le_of_ble_eq_true rfl, Nat.le_of_ble_eq_true rfl⟩) (hw_pS hH hK hST hS (by decide) (fun _ h => Or.inl h) trivial) rfl rfl hl.1 rfl (lv_room (Nat.le_of_ble_eq_true rfl)) dX12_copy_8 ⟨Nat.le_of_ble_eq_true rfl, Nat.le_of_ble_eq_true rfl⟩) (fun v hp => ?_)
      rcases hp with ⟨rfl, q4⟩ | ⟨rfl, q5⟩
      · refine lv_if_ne (tgt := 17) hx hb dX12_copy_11 (by decide) (fun c6 => ?_) (fun c6 => ?_)
        · refine lv_aload_n hx hb dX12_copy_17 rfl (lv_at hl 0 rfl) ?_
          refine hw_get hx hb fg_99_11 hK vm rfl dX12_copy_18 ?_
          refine lv_iload_n hx hb dX12_copy_21 rfl (lv_at hl 1 rfl) ?_
          refine hw_iald hx hb hK vsz (hw_in (by omega) (by omega)) dX12_copy_22 ?_
          refine lv_topi (fun x7 e8 => ?_)
          have n10 : vp_in p1 4 := (hw_in (by omega) (by omega))
          have t9 : (-1) ≤ x7.toInt ∧ x7.toInt ≤ 24 := by rw [e8]; exact qsz _ (Nat.not_le.mp fun q => n10 (Or.inr q))
          have hs1 : x7.toInt = (fsz p1.toNatClampNeg).toInt := by rw [e8]
          refine lv_if_lt (tgt := 35) hx hb dX12_copy_23 (by decide) (fun c11 => ?_) (fun c11 => ?_)
          · have b12 : x7.toInt < 0 := hw_ilt c11
            refine lv_bipush (v := (-11)) hx hb dX12_copy_35 (by decide) ?_
            exact hw_iretM (v := (-11)) hx hb hr hlocks hQ hS rfl (Or.inr (Or.inl ⟨fth, fhd, rfl, hH, vm, vla, vsz, vth, vhd, (by first | rfl | trivial | assumption | omega | (intros; first | rfl | assumption | omega | (exfalso; omega))), (by first | rfl | trivial | assumption | omega | (intros; first | rfl | assumption | omega | (exfalso; omega))), (by first | rfl | trivial | assumption | omega | (intros; first | rfl | assumption | omega | (exfalso; omega))), (by first | rfl | trivial | assumption | omega | (intros; first | rfl | assumption | omega | (exfalso; omega)))⟩)) dX12_copy_37
          · have b13 : 0 ≤ x7.toInt := hw_inlt c11
            refine lv_aload_n hx hb dX12_copy_26 rfl (lv_at hl 0 rfl) ?_
            refine hw_get hx hb fg_99_11 hK vm rfl dX12_copy_27 ?_
            refine lv_iload_n hx hb dX12_copy_30 rfl (lv_at hl 3 rfl) ?_
            refine hw_iald hx hb hK vsz (hw_in (by omega) (by omega)) dX12_copy_31 ?_
            refine lv_topi (fun x14 e15 => ?_)
            have n17 : vp_in p3 4 := (hw_in (by omega) (by omega))
            have t16 : (-1) ≤ x14.toInt ∧ x14.toInt ≤ 24 := by rw [e15]; exact qsz _ (Nat.not_le.mp fun q => n17 (Or.inr q))
            have hs3 : x14.toInt = (fsz p3.toNatClampNeg).toInt := by rw [e15]
            refine lv_if_ge (tgt := 38) hx hb dX12_copy_32 (by decide) (fun c18 => ?_) (fun c18 => ?_)
            · have b19 : 0 ≤ x14.toInt := hw_ile c18
              refine lv_aload_n hx hb dX12_copy_38 rfl (lv_at hl 0 rfl) ?_
              refine hw_get hx hb fg_96_11 hK vm rfl dX12_copy_39 ?_
              refine lv_iload_n hx hb dX12_copy_42 rfl (lv_at hl 1 rfl) ?_
              refine hw_iald hx hb hK vla (hw_in (by omega) (by omega)) dX12_copy_43 ?_
              refine lv_topi (fun x20 e21 => ?_)
              have hl1 : x20.toInt = (fla p1.toNatClampNeg).toInt := by rw [e21]
              refine lv_aload_n hx hb dX12_copy_44 rfl (lv_at hl 0 rfl) ?_
              refine hw_get hx hb fg_96_11 hK vm rfl dX12_copy_45 ?_
              refine lv_iload_n hx hb dX12_copy_48 rfl (lv_at hl 3 rfl) ?_
              refine hw_iald hx hb hK vla (hw_in (by omega) (by omega)) dX12_copy_49 ?_
              refine lv_topi (fun x22 e23 => ?_)
              have hl3 : x22.toInt = (fla p3.toNatClampNeg).toInt := by rw [e23]
              refine lv_icmp_eq (tgt := 56) hx hb dX12_copy_50 (by decide) (fun c24 => ?_) (fun c24 => ?_)
              · have b25 : x20.toInt = x22.toInt := hw_ieq c24
                refine lv_aload_n hx hb dX12_copy_56 rfl (lv_at hl 0 rfl) ?_
                refine lv_iload_n hx hb dX12_copy_57 rfl (lv_at hl 1 rfl) ?_
                refine lv_iload_n hx hb dX12_copy_58 rfl (lv_at hl 2 rfl) ?_
                refine lv_iload hx hb dX12_copy_59 (lv_at hl 5 rfl) ?_
                refine hw_cR (va_runV (As := [.int p1, .int p2, .int p5]) (rest := []) ⟨hx, hb, hml, hown, hts⟩ (k_X12_isSpan l D G h0 p1 p2 p5 _ rm ud_m ky_m lo_m wk_m dk_m ln_m sm_m fi_m be_m rk_m rl_m rw_m cl_m dg_m fsz G0 Rm ⟨by first | decide | omega, by first | decide | omega⟩ ⟨by first | decide | omega, by first | decide | omega⟩ ⟨by first | decide | omega, by first | decide | omega⟩ ⟨by first | decide | omega, by first | decide | omega⟩ ⟨by first | decide | omega, by first | decide | omega⟩ ⟨by first | decide | omega, by first | decide | omega⟩ ⟨by first | decide | omega, by first | decide | omega⟩ ⟨by first | decide | omega, by first | decide | omega⟩ ⟨by first | decide | omega, by first | decide | omega⟩ ⟨by first | decide | omega, by first | decide | omega⟩ ⟨by first | decide | omega, by first | decide | omega⟩ ⟨by first | decide | omega, by first | decide | omega⟩ qsz (by first | assumption | decide | omega)) (cwV 3 hts gX12_copy_X12_isSpan rfl rfl rfl (by decide +kernel) ⟨Nat.le_of_ble_eq_true rfl, Nat.le_of_ble_eq_true rfl⟩) (hw_pV (hw_rc (q := (RX12, TX12, 45)) hK vm rfl) hH hK hST hS (by decide) (fun _ h => Or.inl h) ⟨vm, vsz⟩) rfl rfl hl.1 rfl (lv_room (Nat.le_of_ble_eq_true rfl)) dX12_copy_61 ⟨Nat.le_of_ble_eq_true rfl, Nat.le_of_ble_eq_true rfl⟩) (fun v hp => ?_)
                rcases hp with ⟨rfl, q26⟩ | ⟨rfl, q27⟩
                · refine lv_if_eq (tgt := 79) hx hb dX12_copy_64 (by decide) (fun c28 => ?_) (fun c28 => ?_)
                  · exact absurd c28 (by decide)
                  · refine lv_aload_n hx hb dX12_copy_67 rfl (lv_at hl 0 rfl) ?_
                    refine lv_iload_n hx hb dX12_copy_68 rfl (lv_at hl 3 rfl) ?_
                    refine lv_iload hx hb dX12_copy_69 (lv_at hl 4 rfl) ?_
                    refine lv_iload hx hb dX12_copy_71 (lv_at hl 5 rfl) ?_
                    refine hw_cR (va_runV (As := [.int p3, .int p4, .int p5]) (rest := []) ⟨hx, hb, hml, hown, hts⟩ (k_X12_isSpan l D G h0 p3 p4 p5 _ rm ud_m ky_m lo_m wk_m dk_m ln_m sm_m fi_m be_m rk_m rl_m rw_m cl_m dg_m fsz G0 Rm ⟨by first | decide | omega, by first | decide | omega⟩ ⟨by first | decide | omega, by first | decide | omega⟩ ⟨by first | decide | omega, by first | decide | omega⟩ ⟨by first | decide | omega, by first | decide | omega⟩ ⟨by first | decide | omega, by first | decide | omega⟩ ⟨by first | decide | omega, by first | decide | omega⟩ ⟨by first | decide | omega, by first | decide | omega⟩ ⟨by first | decide | omega, by first | decide | omega⟩ ⟨by first | decide | omega, by first | decide | omega⟩ ⟨by first | decide | omega, by first | decide | omega⟩ ⟨by first | decide | omega, by first | decide | omega⟩ ⟨by first | decide | omega, by first | decide | omega⟩ qsz (by first | assumption | decide | omega)) (cwV 3 hts gX12_copy_X12_isSpan rfl rfl rfl (by decide +kernel) ⟨Nat.le_of_ble_eq_true rfl, Nat.le_of_ble_eq_true rfl⟩) (hw_pV (hw_rc (q := (RX12, TX12, 45)) hK vm rfl) hH hK hST hS (by decide) (fun _ h => Or.inl h) ⟨vm, vsz⟩) rfl rfl hl.1 rfl (lv_room (Nat.le_of_ble_eq_true rfl)) dX12_copy_73 ⟨Nat.le_of_ble_eq_true rfl, Nat.le_of_ble_eq_true rfl⟩) (fun v hp => ?_)
                    rcases hp with ⟨rfl, q29⟩ | ⟨rfl, q30⟩
                    · refine lv_if_ne (tgt := 82) hx hb dX12_copy_76 (by decide) (fun c31 => ?_) (fun c31 => ?_)
                      · have hsa := qsz p1.toNatClampNeg (hw_i4 (by omega))
                        have hsb := qsz p3.toNatClampNeg (hw_i4 (by omega))
                        refine lv_iconst (v := 0) hx hb dX12_copy_82 (by decide) ?_
                        refine lv_istore (lv' := [(6, .int 0), (0, .ref h0), (1, .int p1), (2, .int p2), (3, .int p3), (4, .int p4), (5, .int p5)]) hx hb dX12_copy_83 hl (by decide) rfl (fun ls hl => ?_)
                        have L85 : ∀ (n35 : Nat) (y6_32 : Int32) (f33 : Nat → Int64) (hm : (24 - y6_32.toInt).toNat < n35) (g34 : 0 ≤ y6_32.toInt ∧ y6_32.toInt ≤ 24) (inv85_0 : ∀ u : Nat, (u : Int) < y6_32.toInt → f33 u = fth ((24 * p1.toInt + p2.toInt) + u).toNat) (H : Heap) (locs : List Loc) (hH : hw_HT D G H) (vm : va_at D.1 vwCl (h0, .inr (11, hw_LM rm ud_m ky_m lo_m wk_m dk_m ln_m sm_m fi_m be_m rk_m rl_m rw_m cl_m dg_m)) H) (vla : va_at D.1 vwCl ((rm 41), .inl (D.2.1 0, 4, .inl fla)) H) (vsz : va_at D.1 vwCl ((rm 42), .inl (D.2.1 0, 4, .inl fsz)) H) (vth : va_at D.1 vwCl ((rm 43), .inl (D.2.1 1, 96, .inr (.inl fth))) H) (vhd : va_at D.1 vwCl ((rm 44), .inl (D.2.1 1, 24, .inr (.inl f33))) H) (hS : va_S (hw_AW G [83, 84] s.heap.size) s.heap H locs) (ls : Array Slot) (hl : lv_has ls 7 [(6, .int y6_32), (0, .ref h0), (1, .int p1), (2, .int p2), (3, .int p3), (4, .int p4), (5, .int p5)]), W p l e ({ frames := 2, cells := 0, slots := 0, locals := 45 } : Room) s m args below meth c H locs 0 0 QQ (F0 m 85 ls []) := by
                          intro n35
                          induction n35 with
                          | zero => intro y6_32 f33 hm; exact absurd hm (Nat.not_lt_zero _)
                          | succ n35 ih85 =>
                            intro y6_32 f33 hm g34 inv85_0 H locs hH vm vla vsz vth vhd hS ls hl
                            refine lv_iload hx hb dX12_copy_85 (lv_at hl 0 rfl) ?_
                            refine lv_iload hx hb dX12_copy_87 (lv_at hl 6 rfl) ?_
                            refine lv_icmp_ge (tgt := 119) hx hb dX12_copy_89 (by decide) (fun c36 => ?_) (fun c36 => ?_)
                            · have b37 : p5.toInt ≤ y6_32.toInt := hw_ile c36
                              have hhd : ∀ u : Nat, (u : Int) < p5.toInt → f33 u = fth ((24 * p1.toInt + p2.toInt) + u).toNat := fun u hu => inv85_0 u (by omega)
                              refine lv_iconst (v := 0) hx hb dX12_copy_119 (by decide) ?_
                              refine lv_istore (lv' := [(6, .int 0), (0, .ref h0), (1, .int p1), (2, .int p2), (3, .int p3), (4, .int p4), (5, .int p5)]) hx hb dX12_copy_120 hl (by decide) rfl (fun ls hl => ?_)
                              have L122 : ∀ (n41 : Nat) (y6_38 : Int32) (f39 : Nat → Int64) (hm : (24 - y6_38.toInt).toNat < n41) (g40 : 0 ≤ y6_38.toInt ∧ y6_38.toInt ≤ 24) (inv122_0 : ∀ u : Nat, f39 u = hw_mv fth fth (24 * p1.toInt + p2.toInt) (24 * p3.toInt + p4.toInt) y6_38.toInt u) (inv122_1 : y6_38.toInt ≤ p5.toInt) (H : Heap) (locs : List Loc) (hH : hw_HT D G H) (vm : va_at D.1 vwCl (h0, .inr (11, hw_LM rm ud_m ky_m lo_m wk_m dk_m ln_m sm_m fi_m be_m rk_m rl_m rw_m cl_m dg_m)) H) (vla : va_at D.1 vwCl ((rm 41), .inl (D.2.1 0, 4, .inl fla)) H) (vsz : va_at D.1 vwCl ((rm 42), .inl (D.2.1 0, 4, .inl fsz)) H) (vth : va_at D.1 vwCl ((rm 43), .inl (D.2.1 1, 96, .inr (.inl f39))) H) (vhd : va_at D.1 vwCl ((rm 44), .inl (D.2.1 1, 24, .inr (.inl f33))) H) (hS : va_S (hw_AW G [83, 84] s.heap.size) s.heap H locs) (ls : Array Slot) (hl : lv_has ls 7 [(6, .int y6_38), (0, .ref h0), (1, .int p1), (2, .int p2), (3, .int p3), (4, .int p4), (5, .int p5)]), W p l e ({ frames := 2, cells := 0, slots := 0, locals := 45 } : Room) s m args below meth c H locs 0 0 QQ (F0 m 122 ls []) := by
                                intro n41
                                induction n41 with
                                | zero => intro y6_38 f39 hm; exact absurd hm (Nat.not_lt_zero _)
                                | succ n41 ih122 =>
                                  intro y6_38 f39 hm g40 inv122_0 inv122_1 H locs hH vm vla vsz vth vhd hS ls hl
                                  refine lv_iload hx hb dX12_copy_122 (lv_at hl 0 rfl) ?_
                                  refine lv_iload hx hb dX12_copy_124 (lv_at hl 6 rfl) ?_
                                  refine lv_icmp_ge (tgt := 157) hx hb dX12_copy_126 (by decide) (fun c42 => ?_) (fun c42 => ?_)
                                  · have b43 : p5.toInt ≤ y6_38.toInt := hw_ile c42
                                    refine lv_iload hx hb dX12_copy_157 (lv_at hl 6 rfl) ?_
                                    exact hw_iretM (v := p5) hx hb hr hlocks hQ hS rfl (Or.inr (Or.inr (Or.inr (Or.inr (⟨p5, f39, f33, rfl, hH, vm, vla, vsz, vth, vhd, (by first | rfl | trivial | assumption | omega | (intros; first | rfl | assumption | omega | (exfalso; omega))), (by first | rfl | trivial | assumption | omega | (intros; first | rfl | assumption | omega | (exfalso; omega))), (by first | rfl | trivial | assumption | omega | (intros; first | rfl | assumption | omega | (exfalso; omega))), (by first | rfl | trivial | assumption | omega | (intros; first | rfl | assumption | omega | (exfalso; omega))), (by first | rfl | trivial | assumption | omega | (intros; first | rfl | assumption | omega | (exfalso; omega))), (by first | rfl | trivial | assumption | omega | (intros; first | rfl | assumption | omega | (exfalso; omega))), (by first | rfl | trivial | assumption | omega | (intros; first | rfl | assumption | omega | (exfalso; omega))), (by intro u; rw [inv122_0 u, show y6_38.toInt = p5.toInt from by omega])⟩))))) dX12_copy_159
                                  · have b44 : y6_38.toInt < p5.toInt := hw_inle c42
                                    refine lv_aload_n hx hb dX12_copy_129 rfl (lv_at hl 1 rfl) ?_
                                    refine hw_get hx hb fg_102_11 hK vm rfl dX12_copy_130 ?_
                                    refine lv_bipush (v := 24) hx hb dX12_copy_133 (by decide) ?_
                                    refine lv_iload_n hx hb dX12_copy_135 rfl (lv_at hl 4 rfl) ?_
                                    refine lv_imul hx hb dX12_copy_136 ?_
                                    refine lv_topi (fun x45 e46 => ?_)
                                    have t47 : x45.toInt = 24 * p3.toInt := by rw [e46]; exact hw_mul rfl rfl (by omega) (by omega)
                                    refine lv_iload hx hb dX12_copy_137 (lv_at hl 5 rfl) ?_
                                    refine lv_iadd hx hb dX12_copy_139 ?_
                                    refine lv_topi (fun x48 e49 => ?_)
                                    have t50 : x48.toInt = x45.toInt + p4.toInt := by rw [e49]; exact hw_add rfl rfl (by omega) (by omega)
                                    refine lv_iload hx hb dX12_copy_140 (lv_at hl 0 rfl) ?_
                                    refine lv_iadd hx hb dX12_copy_142 ?_
                                    refine lv_topi (fun x51 e52 => ?_)
                                    have t53 : x51.toInt = x48.toInt + y6_38.toInt := by rw [e52]; exact hw_add rfl rfl (by omega) (by omega)
                                    have hqj : x51.toNatClampNeg = ((24 * p3.toInt + p4.toInt) + y6_38.toInt).toNat := by rw [hw_tc]; omega
                                    refine lv_aload_n hx hb dX12_copy_143 rfl (lv_at hl 1 rfl) ?_
                                    refine hw_get hx hb fg_106_11 hK vm rfl dX12_copy_144 ?_
                                    refine lv_iload hx hb dX12_copy_147 (lv_at hl 0 rfl) ?_
                                    refine hw_lald hx hb hK vhd (hw_in (by omega) (by omega)) dX12_copy_149 ?_
                                    refine lv_topl (fun x54 e55 => ?_)
                                    have hxw := e55
                                    refine hw_last hx hb hK hH vth (hw_in (by omega) (by omega)) (fun _ => by rw [(hw_RM_43 Rm)]; exact ⟨_, rfl⟩) hS (hw_AWi (hw_RM_43 Rm) (by decide)) dX12_copy_150 (fun H locs hH vth oq hz hS => ?_)
                                    have vm := va_at.kept vm (oq _ (hw_ne G0 (hw_RM_43 Rm) (by decide)))
                                    have vla := va_at.kept vla (oq _ (hw_ne (hw_RM_41 Rm) (hw_RM_43 Rm) (by decide)))
                                    have vsz := va_at.kept vsz (oq _ (hw_ne (hw_RM_42 Rm) (hw_RM_43 Rm) (by decide)))
                                    have vhd := va_at.kept vhd (oq _ (hw_ne (hw_RM_44 Rm) (hw_RM_43 Rm) (by decide)))
                                    obtain ⟨f56, e57⟩ : ∃ z, z = vp_updL f39 x51.toNatClampNeg x54 := ⟨_, rfl⟩
                                    rw [← e57] at vth
                                    obtain ⟨x58, e59⟩ : ∃ y : Int32, y = y6_38 + 1 := ⟨_, rfl⟩
                                    refine lv_iinc (v := x58) (lv' := [(6, .int x58), (0, .ref h0), (1, .int p1), (2, .int p2), (3, .int p3), (4, .int p4), (5, .int p5)]) hx hb dX12_copy_151 hl (k := 0) rfl (by rw [e59]; rfl) (by decide) rfl (fun ls hl => ?_)
                                    have t60 : x58.toInt = y6_38.toInt + 1 := by rw [e59]; exact hw_add rfl rfl (by omega) (by omega)
                                    refine lv_goto (tgt := 122) hx hb dX12_copy_154 (by decide) ?_
                                    exact ih122 x58 f56 (by first | omega | omega) ⟨by first | decide | omega, by first | decide | omega⟩ (by rw [e57, show x58.toInt = y6_38.toInt + 1 from by omega]; exact hw_mv_up inv122_0 hqj (by omega) (by omega) (hxw.trans (hw_hdv hhd (by omega) (by omega)))) (by omega) _ _ hH vm vla vsz vth vhd hS _ (lv_sub hl [0, 1, 2, 3, 4, 5, 6] rfl)
                              exact L122 _ 0 fth (Nat.lt_succ_self _) ⟨by first | decide | omega, by first | decide | omega⟩ (by intro u; exact (hw_mv_0 _ _ _ u).symm) (by have h3 : (0 : Int32).toInt = 0 := rfl; omega) _ _ hH vm vla vsz vth vhd hS _ (lv_sub hl [0, 1, 2, 3, 4, 5, 6] rfl)
                            · have b61 : y6_32.toInt < p5.toInt := hw_inle c36
                              refine lv_aload_n hx hb dX12_copy_92 rfl (lv_at hl 1 rfl) ?_
                              refine hw_get hx hb fg_106_11 hK vm rfl dX12_copy_93 ?_
                              refine lv_iload hx hb dX12_copy_96 (lv_at hl 0 rfl) ?_
                              refine lv_aload_n hx hb dX12_copy_98 rfl (lv_at hl 1 rfl) ?_
                              refine hw_get hx hb fg_102_11 hK vm rfl dX12_copy_99 ?_
                              refine lv_bipush (v := 24) hx hb dX12_copy_102 (by decide) ?_
                              refine lv_iload_n hx hb dX12_copy_104 rfl (lv_at hl 2 rfl) ?_
                              refine lv_imul hx hb dX12_copy_105 ?_
                              refine lv_topi (fun x62 e63 => ?_)
                              have t64 : x62.toInt = 24 * p1.toInt := by rw [e63]; exact hw_mul rfl rfl (by omega) (by omega)
                              refine lv_iload_n hx hb dX12_copy_106 rfl (lv_at hl 3 rfl) ?_
                              refine lv_iadd hx hb dX12_copy_107 ?_
                              refine lv_topi (fun x65 e66 => ?_)
                              have t67 : x65.toInt = x62.toInt + p2.toInt := by rw [e66]; exact hw_add rfl rfl (by omega) (by omega)
                              refine lv_iload hx hb dX12_copy_108 (lv_at hl 0 rfl) ?_
                              refine lv_iadd hx hb dX12_copy_110 ?_
                              refine lv_topi (fun x68 e69 => ?_)
                              have t70 : x68.toInt = x65.toInt + y6_32.toInt := by rw [e69]; exact hw_add rfl rfl (by omega) (by omega)
                              have hqi : x68.toNatClampNeg = ((24 * p1.toInt + p2.toInt) + y6_32.toInt).toNat := by rw [hw_tc]; omega
                              refine hw_lald hx hb hK vth (hw_in (by omega) (by omega)) dX12_copy_111 ?_
                              refine lv_topl (fun x71 e72 => ?_)
                              have hxv := e72
                              refine hw_last hx hb hK hH vhd (hw_in (by omega) (by omega)) (fun _ => by rw [(hw_RM_44 Rm)]; exact ⟨_, rfl⟩) hS (hw_AWi (hw_RM_44 Rm) (by decide)) dX12_copy_112 (fun H locs hH vhd oq hz hS => ?_)
                              have vm := va_at.kept vm (oq _ (hw_ne G0 (hw_RM_44 Rm) (by decide)))
                              have vla := va_at.kept vla (oq _ (hw_ne (hw_RM_41 Rm) (hw_RM_44 Rm) (by decide)))
                              have vsz := va_at.kept vsz (oq _ (hw_ne (hw_RM_42 Rm) (hw_RM_44 Rm) (by decide)))
                              have vth := va_at.kept vth (oq _ (hw_ne (hw_RM_43 Rm) (hw_RM_44 Rm) (by decide)))
                              obtain ⟨f73, e74⟩ : ∃ z, z = vp_updL f33 y6_32.toNatClampNeg x71 := ⟨_, rfl⟩
                              rw [← e74] at vhd
                              obtain ⟨x75, e76⟩ : ∃ y : Int32, y = y6_32 + 1 := ⟨_, rfl⟩
                              refine lv_iinc (v := x75) (lv' := [(6, .int x75), (0, .ref h0), (1, .int p1), (2, .int p2), (3, .int p3), (4, .int p4), (5, .int p5)]) hx hb dX12_copy_113 hl (k := 0) rfl (by rw [e76]; rfl) (by decide) rfl (fun ls hl => ?_)
                              have t77 : x75.toInt = y6_32.toInt + 1 := by rw [e76]; exact hw_add rfl rfl (by omega) (by omega)
                              refine lv_goto (tgt := 85) hx hb dX12_copy_116 (by decide) ?_
                              exact ih85 x75 f73 (by first | omega | omega) ⟨by first | decide | omega, by first | decide | omega⟩ (by have h9 := hw_held_up inv85_0 (hw_tc _) (by omega) (hxv.trans (by rw [hqi])); intro u hu; rw [e74]; exact h9 u (by omega)) _ _ hH vm vla vsz vth vhd hS _ (lv_sub hl [0, 1, 2, 3, 4, 5, 6] rfl)
                        exact L85 _ 0 fhd (Nat.lt_succ_self _) ⟨by first | decide | omega, by first | decide | omega⟩ (by intro u hu; exfalso; have h3 : (0 : Int32).toInt = 0 := rfl; omega) _ _ hH vm vla vsz vth vhd hS _ (lv_sub hl [0, 1, 2, 3, 4, 5, 6] rfl)
                      · exact absurd c31 (by decide)
                    · refine lv_if_ne (tgt := 82) hx hb dX12_copy_76 (by decide) (fun c78 => ?_) (fun c78 => ?_)
                      · exact absurd c78 (by decide)
                      · refine lv_bipush (v := (-13)) hx hb dX12_copy_79 (by decide) ?_
                        exact hw_iretM (v := (-13)) hx hb hr hlocks hQ hS rfl (Or.inr (Or.inr (Or.inr (Or.inl ⟨fth, fhd, rfl, hH, vm, vla, vsz, vth, vhd, (by first | rfl | trivial | assumption | omega | (intros; first | rfl | assumption | omega | (exfalso; omega))), (by first | rfl | trivial | assumption | omega | (intros; first | rfl | assumption | omega | (exfalso; omega))), (by first | rfl | trivial | assumption | omega | (intros; first | rfl | assumption | omega | (exfalso; omega))), (by first | rfl | trivial | assumption | omega | (intros; first | rfl | assumption | omega | (exfalso; omega))), (by first | rfl | trivial | assumption | omega | (intros; first | rfl | assumption | omega | (exfalso; omega))), (by first | rfl | trivial | assumption | omega | (intros; first | rfl | assumption | omega | (exfalso; omega))), (by first | rfl | trivial | assumption | omega | (intros; first | rfl | assumption | omega | (exfalso; omega)))⟩)))) dX12_copy_81
                · refine lv_if_eq (tgt := 79) hx hb dX12_copy_64 (by decide) (fun c79 => ?_) (fun c79 => ?_)
                  · refine lv_bipush (v := (-13)) hx hb dX12_copy_79 (by decide) ?_
                    exact hw_iretM (v := (-13)) hx hb hr hlocks hQ hS rfl (Or.inr (Or.inr (Or.inr (Or.inl ⟨fth, fhd, rfl, hH, vm, vla, vsz, vth, vhd, (by first | rfl | trivial | assumption | omega | (intros; first | rfl | assumption | omega | (exfalso; omega))), (by first | rfl | trivial | assumption | omega | (intros; first | rfl | assumption | omega | (exfalso; omega))), (by first | rfl | trivial | assumption | omega | (intros; first | rfl | assumption | omega | (exfalso; omega))), (by first | rfl | trivial | assumption | omega | (intros; first | rfl | assumption | omega | (exfalso; omega))), (by first | rfl | trivial | assumption | omega | (intros; first | rfl | assumption | omega | (exfalso; omega))), (by first | rfl | trivial | assumption | omega | (intros; first | rfl | assumption | omega | (exfalso; omega))), (by first | rfl | trivial | assumption | omega | (intros; first | rfl | assumption | omega | (exfalso; omega)))⟩)))) dX12_copy_81
                  · exact absurd c79 (by decide)
              · have b80 : x20.toInt ≠ x22.toInt := hw_ine c24
                refine lv_bipush (v := (-15)) hx hb dX12_copy_53 (by decide) ?_
                exact hw_iretM (v := (-15)) hx hb hr hlocks hQ hS rfl (Or.inr (Or.inr (Or.inl ⟨fth, fhd, rfl, hH, vm, vla, vsz, vth, vhd, (by first | rfl | trivial | assumption | omega | (intros; first | rfl | assumption | omega | (exfalso; omega))), (by first | rfl | trivial | assumption | omega | (intros; first | rfl | assumption | omega | (exfalso; omega))), (by first | rfl | trivial | assumption | omega | (intros; first | rfl | assumption | omega | (exfalso; omega))), (by first | rfl | trivial | assumption | omega | (intros; first | rfl | assumption | omega | (exfalso; omega))), (by first | rfl | trivial | assumption | omega | (intros; first | rfl | assumption | omega | (exfalso; omega))), (by first | rfl | trivial | assumption | omega | (intros; first | rfl | assumption | omega | (exfalso; omega)))⟩))) dX12_copy_55
            · have b81 : x14.toInt < 0 := hw_inle c18
              refine lv_bipush (v := (-11)) hx hb dX12_copy_35 (by decide) ?_
              exact hw_iretM (v := (-11)) hx hb hr hlocks hQ hS rfl (Or.inr (Or.inl ⟨fth, fhd, rfl, hH, vm, vla, vsz, vth, vhd, (by first | rfl | trivial | assumption | omega | (intros; first | rfl | assumption | omega | (exfalso; omega))), (by first | rfl | trivial | assumption | omega | (intros; first | rfl | assumption | omega | (exfalso; omega))), (by first | rfl | trivial | assumption | omega | (intros; first | rfl | assumption | omega | (exfalso; omega))), (by first | rfl | trivial | assumption | omega | (intros; first | rfl | assumption | omega | (exfalso; omega)))⟩)) dX12_copy_37
        · exact absurd c6 (by decide)
      · refine lv_if_ne (tgt := 17) hx hb dX12_copy_11 (by decide) (fun c82 => ?_) (fun c82 => ?_)
        · exact absurd c82 (by decide)
        · refine lv_bipush (v := (-2)) hx hb dX12_copy_14 (by decide) ?_
          exact hw_iretM (v := (-2)) hx hb hr hlocks hQ hS rfl (Or.inl ⟨fth, fhd, rfl, hH, vm, vla, vsz, vth, vhd, (by first | rfl | trivial | assumption | omega | (intros; first | rfl | assumption | omega | (exfalso; omega))), (by first | rfl | trivial | assumption | omega | (intros; first | rfl | assumption | omega | (exfalso; omega)))⟩) dX12_copy_16
  · refine lv_if_eq (tgt := 14) hx hb dX12_copy_4 (by decide) (fun c83 => ?_) (fun c83 => ?_)
    · refine lv_bipush (v := (-2)) hx hb dX12_copy_14 (by decide) ?_
      exact hw_iretM (v := (-2)) hx hb hr hlocks hQ hS rfl (Or.inl ⟨fth, fhd, rfl, hH, vm, vla, vsz, vth, vhd, (by first | rfl | trivial | assumption | omega | (intros; first | rfl | assumption | omega | (exfalso; omega))), (by first | rfl | trivial | assumption | omega | (intros; first | rfl | assumption | omega | (exfalso; omega)))⟩) dX12_copy_16
    · exact absurd c83 (by decide)

set_option maxHeartbeats 4000000 in
set_option maxRecDepth 100000 in
theorem k3_X12_film (l : Launch) (D : hw_D) (G : Nat → Nat) (h0 : Nat) (p1 : Int32) (p2 : Int32) (p3 : Int32) (sz : Nat) (rm : Nat → Nat) (ud_m ky_m lo_m wk_m dk_m ln_m sm_m fi_m be_m rk_m rl_m rw_m cl_m dg_m : Int32) (fla : Nat → Int32) (fsz : Nat → Int32) (fth : Nat → Int64) (G0 : G h0 = 9) (Rm : hw_RM G rm) (gud_m : 0 ≤ ud_m.toInt ∧ ud_m.toInt ≤ 8) (gky_m : 0 ≤ ky_m.toInt ∧ ky_m.toInt ≤ 7) (glo_m : 0 ≤ lo_m.toInt ∧ lo_m.toInt ≤ 7) (gwk_m : 0 ≤ wk_m.toInt ∧ wk_m.toInt ≤ 3) (gln_m : 0 ≤ ln_m.toInt ∧ ln_m.toInt ≤ 200) (gsm_m : 0 ≤ sm_m.toInt ∧ sm_m.toInt ≤ 6) (gfi_m : 0 ≤ fi_m.toInt ∧ fi_m.toInt ≤ 200) (gbe_m : 0 ≤ be_m.toInt ∧ be_m.toInt ≤ 200) (grk_m : 0 ≤ rk_m.toInt ∧ rk_m.toInt ≤ 7) (grl_m : 0 ≤ rl_m.toInt ∧ rl_m.toInt ≤ 7) (grw_m : 0 ≤ rw_m.toInt ∧ rw_m.toInt ≤ 3) (gdg_m : 0 ≤ dg_m.toInt ∧ dg_m.toInt ≤ 1) (qsz : ∀ j, j < 4 → (-1) ≤ (fsz j).toInt ∧ (fsz j).toInt ≤ 24) : Met l yX12_film wsX12_film ({ frames := 6, cells := 0, slots := 0, locals := 137 } : Room) (hw_PC D G [.ref h0, .int p1, .int p2, .int p3] sz (fun H => va_at D.1 vwCl (h0, .inr (11, hw_LM rm ud_m ky_m lo_m wk_m dk_m ln_m sm_m fi_m be_m rk_m rl_m rw_m cl_m dg_m)) H ∧ va_at D.1 vwCl ((rm 41), .inl (D.2.1 0, 4, .inl fla)) H ∧ va_at D.1 vwCl ((rm 42), .inl (D.2.1 0, 4, .inl fsz)) H ∧ va_at D.1 vwCl ((rm 43), .inl (D.2.1 1, 96, .inr (.inl fth))) H)) (hw_QM (fun v H => ∃ (r : Int32) (fth2 : Nat → Int64), v = some (.int r) ∧ hw_HT D G H ∧ va_at D.1 vwCl (h0, .inr (11, hw_LM rm ud_m ky_m lo_m wk_m dk_m ln_m sm_m fi_m be_m rk_m rl_m rw_m cl_m dg_m)) H ∧ va_at D.1 vwCl ((rm 41), .inl (D.2.1 0, 4, .inl fla)) H ∧ va_at D.1 vwCl ((rm 42), .inl (D.2.1 0, 4, .inl fsz)) H ∧ va_at D.1 vwCl ((rm 43), .inl (D.2.1 1, 96, .inr (.inl fth2))) H ∧ (∀ j : Nat, j < 4 → (fla j).toInt = 2 → ∀ i : Nat, i < 24 → fth2 (24 * j + i) = fth (24 * j + i))) (hw_AW G [83] sz)) 0 0 (hw_AW G [83] sz) := by
  refine hw_met (cc := cX12_film) (maxL := 7) (ret := (some .int)) (plainFor_of_name (by decide)) rfl (Nat.le_of_ble_eq_true rfl) ?_
  intro p e s m args below meth c QQ ls hsz hx hb hml hr hts hown hlocks hnm hH hK hST hF hQ hl
  subst hsz
  have hS : va_S (hw_AW G [83] s.heap.size) s.heap s.heap [] := va_S.rf
  obtain ⟨vm, vla, vsz, vth⟩ := hF
  have hl : lv_has ls 7 [(0, .ref h0), (1, .int p1), (2, .int p2), (3, .int p3)] := hl
  have u_11 : ∀ w ∈ u_ws RX12 TX12 45, w.before args s = true := fun w hw => hts w ((by decide +kernel : ∀ w ∈ u_ws RX12 TX12 45, w ∈ wsX12_film) w hw)
  have fg_145_11 : hw_FG s args m 145 11 7 := ⟨RX12, "WardWalkersModel", RX12, TX12, 45, u_11, hown, rfl, by decide, (hts (.fieldLink RX12 145 "WardWalkersModel" "locks" "I") (by decide +kernel)), (fun _ h9 => h9)⟩
  have fg_102_11 : hw_FG s args m 102 11 43 := ⟨RX12, "WardWalkersModel", RX12, TX12, 45, u_11, hown, rfl, by decide, (hts (.fieldLink RX12 102 "WardWalkersModel" "things" "[J") (by decide +kernel)), (fun _ h9 => h9)⟩
  refine lv_aload_n hx hb dX12_film_0 rfl (lv_at hl 0 rfl) ?_
  refine lv_iload_n hx hb dX12_film_1 rfl (lv_at hl 1 rfl) ?_
  refine hw_cR (va_runV (As := [.int p1]) (rest := []) ⟨hx, hb, hml, hown, hts⟩ (k_X12_isKey l D G h0 p1 _ rm ud_m ky_m lo_m wk_m dk_m ln_m sm_m fi_m be_m rk_m rl_m rw_m cl_m dg_m G0 Rm ⟨by first | decide | omega, by first | decide | omega⟩ ⟨by first | decide | omega, by first | decide | omega⟩ ⟨by first | decide | omega, by first | decide | omega⟩ ⟨by first | decide | omega, by first | decide | omega⟩ ⟨by first | decide | omega, by first | decide | omega⟩ ⟨by first | decide | omega, by first | decide | omega⟩ ⟨by first | decide | omega, by first | decide | omega⟩ ⟨by first | decide | omega, by first | decide | omega⟩ ⟨by first | decide | omega, by first | decide | omega⟩ ⟨by first | decide | omega, by first | decide | omega⟩ ⟨by first | decide | omega, by first | decide | omega⟩ ⟨by first | decide | omega, by first | decide | omega⟩) (cwV 1 hts gX12_film_X12_isKey rfl rfl rfl (by decide +kernel) ⟨Nat.le_of_ble_eq_true rfl, Nat.le_of_ble_eq_true rfl⟩) (hw_pV (hw_rc (q := (RX12, TX12, 45)) hK vm rfl) hH hK hST hS (by decide) (fun _ h => Or.inl h) vm) rfl rfl hl.1 rfl (lv_room (Nat.le_of_ble_eq_true rfl)) dX12_film_2 ⟨Nat.le_of_ble_eq_true rfl, Nat.le_of_ble_eq_true rfl⟩) (fun v hp => ?_)
  rcases hp with ⟨rfl, q1⟩ | ⟨rfl, q2⟩
  · refine lv_if_eq (tgt := 15) hx hb dX12_film_5 (by decide) (fun c3 => ?_) (fun c3 => ?_)
    · exact absurd c3 (by decide)
    · refine lv_iload_n hx hb dX12_film_8 rfl (lv_at hl 2 rfl) ?_
      refine hw_cR (va_runS (As := [.int p2]) (rest := []) ⟨hx, hb, hml, hown, hts⟩ (k_X12_isRack l D G p2 _) (va_cwS 1 hts gX12_film_X12_isRack rfl rfl rfl (by decide +kernel) ⟨Nat.le_of_ble_eq_true rfl, Nat.le_of_ble_eq_true rfl⟩) (hw_pS hH hK hST hS (by decide) (fun _ h => Or.inl h) trivial) rfl rfl hl.1 rfl (lv_room (Nat.le_of_ble_eq_true rfl)) dX12_film_9 ⟨Nat.le_of_ble_eq_true rfl, Nat.le_of_ble_eq_true rfl⟩) (fun v hp => ?_)
      rcases hp with ⟨rfl, q4⟩ | ⟨rfl, q5⟩
      · refine lv_if_ne (tgt := 18) hx hb dX12_film_12 (by decide) (fun c6 => ?_) (fun c6 => ?_)
        · refine lv_aload_n hx hb dX12_film_18 rfl (lv_at hl 0 rfl) ?_
          refine lv_iload_n hx hb dX12_film_19 rfl (lv_at hl 2 rfl) ?_
          refine lv_iconst (v := 4) hx hb dX12_film_20 (by decide) ?_
          refine hw_cR (va_runV (As := [.int p2, .int 4]) (rest := []) ⟨hx, hb, hml, hown, hts⟩ (k_X12_noRack l D G h0 p2 4 _ rm ud_m ky_m lo_m wk_m dk_m ln_m sm_m fi_m be_m rk_m rl_m rw_m cl_m dg_m fla fsz G0 Rm ⟨by first | decide | omega, by first | decide | omega⟩ ⟨by first | decide | omega, by first | decide | omega⟩ ⟨by first | decide | omega, by first | decide | omega⟩ ⟨by first | decide | omega, by first | decide | omega⟩ ⟨by first | decide | omega, by first | decide | omega⟩ ⟨by first | decide | omega, by first | decide | omega⟩ ⟨by first | decide | omega, by first | decide | omega⟩ ⟨by first | decide | omega, by first | decide | omega⟩ ⟨by first | decide | omega, by first | decide | omega⟩ ⟨by first | decide | omega, by first | decide | omega⟩ ⟨by first | decide | omega, by first | decide | omega⟩ ⟨by first | decide | omega, by first | decide | omega⟩ qsz (by first | assumption | decide | omega)) (cwV 2 hts gX12_film_X12_noRack rfl rfl rfl (by decide +kernel) ⟨Nat.le_of_ble_eq_true rfl, Nat.le_of_ble_eq_true rfl⟩) (hw_pV (hw_rc (q := (RX12, TX12, 45)) hK vm rfl) hH hK hST hS (by decide) (fun _ h => Or.inl h) ⟨vm, vla, vsz⟩) rfl rfl hl.1 rfl (lv_room (Nat.le_of_ble_eq_true rfl)) dX12_film_21 ⟨Nat.le_of_ble_eq_true rfl, Nat.le_of_ble_eq_true rfl⟩) (fun v hp => ?_)
          have l7 : (4 : Int32).toInt = 4 := rfl
          rcases hp with ⟨rfl, q8⟩ | ⟨rfl, q9, q10⟩ | ⟨rfl, q11, q12⟩
          · refine lv_istore (lv' := [(4, .int (-11)), (0, .ref h0), (1, .int p1), (2, .int p2), (3, .int p3)]) hx hb dX12_film_24 hl (by decide) rfl (fun ls hl => ?_)
            refine lv_iload hx hb dX12_film_26 (lv_at hl 0 rfl) ?_
            refine lv_if_eq (tgt := 34) hx hb dX12_film_28 (by decide) (fun c13 => ?_) (fun c13 => ?_)
            · exact absurd c13 (by decide)
            · refine lv_iload hx hb dX12_film_31 (lv_at hl 0 rfl) ?_
              exact hw_iretM (v := (-11)) hx hb hr hlocks hQ hS rfl (⟨(-11), fth, rfl, hH, vm, vla, vsz, vth, (by intro j hj h9 i hi; first | rfl | exact inv60_0 _ (hw_frow (p := p2) (fun e => by rw [e] at h9; omega) (by omega) hi))⟩) dX12_film_33
          · refine lv_istore (lv' := [(4, .int (-12)), (0, .ref h0), (1, .int p1), (2, .int p2), (3, .int p3)]) hx hb dX12_film_24 hl (by decide) rfl (fun ls hl => ?_)
            refine lv_iload hx hb dX12_film_26 (lv_at hl 0 rfl) ?_
            refine lv_if_eq (tgt := 34) hx hb dX12_film_28 (by decide) (fun c14 => ?_) (fun c14 => ?_)
            · exact absurd c14 (by decide)
            · refine lv_iload hx hb dX12_film_31 (lv_at hl 0 rfl) ?_
              exact hw_iretM (v := (-12)) hx hb hr hlocks hQ hS rfl (⟨(-12), fth, rfl, hH, vm, vla, vsz, vth, (by intro j hj h9 i hi; first | rfl | exact inv60_0 _ (hw_frow (p := p2) (fun e => by rw [e] at h9; omega) (by omega) hi))⟩) dX12_film_33
          · refine lv_istore (lv' := [(4, .int 0), (0, .ref h0), (1, .int p1), (2, .int p2), (3, .int p3)]) hx hb dX12_film_24 hl (by decide) rfl (fun ls hl => ?_)
            refine lv_iload hx hb dX12_film_26 (lv_at hl 0 rfl) ?_
            refine lv_if_eq (tgt := 34) hx hb dX12_film_28 (by decide) (fun c15 => ?_) (fun c15 => ?_)
            · refine lv_aload_n hx hb dX12_film_34 rfl (lv_at hl 1 rfl) ?_
              refine lv_iload_n hx hb dX12_film_35 rfl (lv_at hl 3 rfl) ?_
              refine lv_iload_n hx hb dX12_film_36 rfl (lv_at hl 4 rfl) ?_
              refine lv_aload_n hx hb dX12_film_37 rfl (lv_at hl 1 rfl) ?_
              refine hw_get hx hb fg_145_11 hK vm rfl dX12_film_38 ?_
              refine hw_cR (va_runV (As := [.int p2, .int p3, .int lo_m]) (rest := []) ⟨hx, hb, hml, hown, hts⟩ (k_X12_isSpan l D G h0 p2 p3 lo_m _ rm ud_m ky_m lo_m wk_m dk_m ln_m sm_m fi_m be_m rk_m rl_m rw_m cl_m dg_m fsz G0 Rm ⟨by first | decide | omega, by first | decide | omega⟩ ⟨by first | decide | omega, by first | decide | omega⟩ ⟨by first | decide | omega, by first | decide | omega⟩ ⟨by first | decide | omega, by first | decide | omega⟩ ⟨by first | decide | omega, by first | decide | omega⟩ ⟨by first | decide | omega, by first | decide | omega⟩ ⟨by first | decide | omega, by first | decide | omega⟩ ⟨by first | decide | omega, by first | decide | omega⟩ ⟨by first | decide | omega, by first | decide | omega⟩ ⟨by first | decide | omega, by first | decide | omega⟩ ⟨by first | decide | omega, by first | decide | omega⟩ ⟨by first | decide | omega, by first | decide | omega⟩ qsz (by first | assumption | decide | omega)) (cwV 3 hts gX12_film_X12_isSpan rfl rfl rfl (by decide +kernel) ⟨Nat.le_of_ble_eq_true rfl, Nat.le_of_ble_eq_true rfl⟩) (hw_pV (hw_rc (q := (RX12, TX12, 45)) hK vm rfl) hH hK hST hS (by decide) (fun _ h => Or.inl h) ⟨vm, vsz⟩) rfl rfl hl.1 rfl (lv_room (Nat.le_of_ble_eq_true rfl)) dX12_film_41 ⟨Nat.le_of_ble_eq_true rfl, Nat.le_of_ble_eq_true rfl⟩) (fun v hp => ?_)
              rcases hp with ⟨rfl, q16⟩ | ⟨rfl, q17⟩
              · refine lv_if_ne (tgt := 50) hx hb dX12_film_44 (by decide) (fun c18 => ?_) (fun c18 => ?_)
                · have hs24 := qsz p2.toNatClampNeg (hw_i4 (by omega))
                  refine lv_aload_n hx hb dX12_film_50 rfl (lv_at hl 1 rfl) ?_
                  refine lv_iload_n hx hb dX12_film_51 rfl (lv_at hl 2 rfl) ?_
                  refine hw_cR (va_runV (As := [.int p1]) (rest := []) ⟨hx, hb, hml, hown, hts⟩ (k_X12_belongings l D G h0 p1 _ G0 (by first | assumption | decide | omega)) (cwV 1 hts gX12_film_X12_belongings rfl rfl rfl (by decide +kernel) ⟨Nat.le_of_ble_eq_true rfl, Nat.le_of_ble_eq_true rfl⟩) (hw_pV (hw_rc (q := (RX12, TX12, 45)) hK vm rfl) hH hK hST hS (by decide) (fun _ h => Or.inl h) trivial) rfl rfl hl.1 rfl (lv_room (Nat.le_of_ble_eq_true rfl)) dX12_film_52 ⟨Nat.le_of_ble_eq_true rfl, Nat.le_of_ble_eq_true rfl⟩) (fun v hp => ?_)
                  obtain ⟨x19, rfl⟩ := hp
                  refine lv_istore (lv' := [(5, .int x19), (4, .int 0), (0, .ref h0), (1, .int p1), (2, .int p2), (3, .int p3)]) hx hb dX12_film_55 hl (by decide) rfl (fun ls hl => ?_)
                  refine lv_iconst (v := 0) hx hb dX12_film_57 (by decide) ?_
                  refine lv_istore (lv' := [(6, .int 0), (5, .int x19), (4, .int 0), (0, .ref h0), (1, .int p1), (2, .int p2), (3, .int p3)]) hx hb dX12_film_58 hl (by decide) rfl (fun ls hl => ?_)
                  have L60 : ∀ (n23 : Nat) (y6_20 : Int32) (f21 : Nat → Int64) (hm : (7 - y6_20.toInt).toNat < n23) (g22 : 0 ≤ y6_20.toInt ∧ y6_20.toInt ≤ 7) (inv60_0 : ∀ u : Nat, (u : Int) < 24 * p2.toInt ∨ 24 * p2.toInt + 24 ≤ (u : Int) → f21 u = fth u) (H : Heap) (locs : List Loc) (hH : hw_HT D G H) (vm : va_at D.1 vwCl (h0, .inr (11, hw_LM rm ud_m ky_m lo_m wk_m dk_m ln_m sm_m fi_m be_m rk_m rl_m rw_m cl_m dg_m)) H) (vla : va_at D.1 vwCl ((rm 41), .inl (D.2.1 0, 4, .inl fla)) H) (vsz : va_at D.1 vwCl ((rm 42), .inl (D.2.1 0, 4, .inl fsz)) H) (vth : va_at D.1 vwCl ((rm 43), .inl (D.2.1 1, 96, .inr (.inl f21))) H) (hS : va_S (hw_AW G [83] s.heap.size) s.heap H locs) (ls : Array Slot) (hl : lv_has ls 7 [(6, .int y6_20), (5, .int x19), (4, .int 0), (0, .ref h0), (1, .int p1), (2, .int p2), (3, .int p3)]), W p l e ({ frames := 6, cells := 0, slots := 0, locals := 137 } : Room) s m args below meth c H locs 0 0 QQ (F0 m 60 ls []) := by
                    intro n23
                    induction n23 with
                    | zero => intro y6_20 f21 hm; exact absurd hm (Nat.not_lt_zero _)
                    | succ n23 ih60 =>
                      intro y6_20 f21 hm g22 inv60_0 H locs hH vm vla vsz vth hS ls hl
                      refine lv_iload hx hb dX12_film_60 (lv_at hl 0 rfl) ?_
                      refine lv_aload_n hx hb dX12_film_62 rfl (lv_at hl 3 rfl) ?_
                      refine hw_get hx hb fg_145_11 hK vm rfl dX12_film_63 ?_
                      refine lv_icmp_ge (tgt := 97) hx hb dX12_film_66 (by decide) (fun c24 => ?_) (fun c24 => ?_)
                      · have b25 : lo_m.toInt ≤ y6_20.toInt := hw_ile c24
                        refine lv_aload_n hx hb dX12_film_97 rfl (lv_at hl 3 rfl) ?_
                        refine hw_get hx hb fg_145_11 hK vm rfl dX12_film_98 ?_
                        exact hw_iretM (v := lo_m) hx hb hr hlocks hQ hS rfl (⟨lo_m, f21, rfl, hH, vm, vla, vsz, vth, (by intro j hj h9 i hi; first | rfl | exact inv60_0 _ (hw_frow (p := p2) (fun e => by rw [e] at h9; omega) (by omega) hi))⟩) dX12_film_101
                      · have b26 : y6_20.toInt < lo_m.toInt := hw_inle c24
                        refine lv_aload_n hx hb dX12_film_69 rfl (lv_at hl 3 rfl) ?_
                        refine hw_get hx hb fg_102_11 hK vm rfl dX12_film_70 ?_
                        refine lv_bipush (v := 24) hx hb dX12_film_73 (by decide) ?_
                        refine lv_iload_n hx hb dX12_film_75 rfl (lv_at hl 5 rfl) ?_
                        refine lv_imul hx hb dX12_film_76 ?_
                        refine lv_topi (fun x27 e28 => ?_)
                        have t29 : x27.toInt = 24 * p2.toInt := by rw [e28]; exact hw_mul rfl rfl (by omega) (by omega)
                        refine lv_iload_n hx hb dX12_film_77 rfl (lv_at hl 6 rfl) ?_
                        refine lv_iadd hx hb dX12_film_78 ?_
                        refine lv_topi (fun x30 e31 => ?_)
                        have t32 : x30.toInt = x27.toInt + p3.toInt := by rw [e31]; exact hw_add rfl rfl (by omega) (by omega)
                        refine lv_iload hx hb dX12_film_79 (lv_at hl 0 rfl) ?_
                        refine lv_iadd hx hb dX12_film_81 ?_
                        refine lv_topi (fun x33 e34 => ?_)
                        have t35 : x33.toInt = x30.toInt + y6_20.toInt := by rw [e34]; exact hw_add rfl rfl (by omega) (by omega)
                        have hqi : x33.toNatClampNeg = (24 * p2.toInt + p3.toInt + y6_20.toInt).toNat := by rw [hw_tc]; omega
                        refine lv_iload hx hb dX12_film_82 (lv_at hl 1 rfl) ?_
                        refine lv_iload hx hb dX12_film_84 (lv_at hl 0 rfl) ?_
                        refine lv_ishr hx hb dX12_film_86 ?_
                        refine lv_topi (fun x36 e37 => ?_)
                        refine lv_iconst (v := 1) hx hb dX12_film_87 (by decide) ?_
                        refine lv_iand hx hb dX12_film_88 ?_
                        refine lv_topi (fun x38 e39 => ?_)
                        have t40 : 0 ≤ x38.toInt ∧ x38.toInt ≤ 1 := by rw [e39]; exact hw_and (by first | decide | omega)
                        refine lv_i2l hx hb dX12_film_89 rfl ?_
                        refine lv_topl (fun x41 e42 => ?_)
                        have t43 : x41.toInt = x38.toInt := by rw [e42]; exact hw_i2l _
                        refine hw_last hx hb hK hH vth (hw_in (by omega) (by omega)) (fun _ => by rw [(hw_RM_43 Rm)]; exact ⟨_, rfl⟩) hS (hw_AWi (hw_RM_43 Rm) (by decide)) dX12_film_90 (fun H locs hH vth oq hz hS => ?_)
                        have vm := va_at.kept vm (oq _ (hw_ne G0 (hw_RM_43 Rm) (by decide)))
                        have vla := va_at.kept vla (oq _ (hw_ne (hw_RM_41 Rm) (hw_RM_43 Rm) (by decide)))
                        have vsz := va_at.kept vsz (oq _ (hw_ne (hw_RM_42 Rm) (hw_RM_43 Rm) (by decide)))
                        obtain ⟨f44, e45⟩ : ∃ z, z = vp_updL f21 x33.toNatClampNeg x41 := ⟨_, rfl⟩
                        rw [← e45] at vth
                        obtain ⟨x46, e47⟩ : ∃ y : Int32, y = y6_20 + 1 := ⟨_, rfl⟩
                        refine lv_iinc (v := x46) (lv' := [(6, .int x46), (5, .int x19), (4, .int 0), (0, .ref h0), (1, .int p1), (2, .int p2), (3, .int p3)]) hx hb dX12_film_91 hl (k := 0) rfl (by rw [e47]; rfl) (by decide) rfl (fun ls hl => ?_)
                        have t48 : x46.toInt = y6_20.toInt + 1 := by rw [e47]; exact hw_add rfl rfl (by omega) (by omega)
                        refine lv_goto (tgt := 60) hx hb dX12_film_94 (by decide) ?_
                        exact ih60 x46 f44 (by first | omega | omega) ⟨by first | decide | omega, by first | decide | omega⟩ (by intro u hu; rw [e45, hw_updL_ne _ (by rw [hqi]; omega)]; exact inv60_0 u hu) _ _ hH vm vla vsz vth hS _ (lv_sub hl [0, 1, 2, 3, 4, 5, 6] rfl)
                  exact L60 _ 0 fth (Nat.lt_succ_self _) ⟨by first | decide | omega, by first | decide | omega⟩ (by intro u _; rfl) _ _ hH vm vla vsz vth hS _ (lv_sub hl [0, 1, 2, 3, 4, 5, 6] rfl)
                · exact absurd c18 (by decide)
              · refine lv_if_ne (tgt := 50) hx hb dX12_film_44 (by decide) (fun c49 => ?_) (fun c49 => ?_)
                · exact absurd c49 (by decide)
                · refine lv_bipush (v := (-13)) hx hb dX12_film_47 (by decide) ?_
                  exact hw_iretM (v := (-13)) hx hb hr hlocks hQ hS rfl (⟨(-13), fth, rfl, hH, vm, vla, vsz, vth, (by intro j hj h9 i hi; first | rfl | exact inv60_0 _ (hw_frow (p := p2) (fun e => by rw [e] at h9; omega) (by omega) hi))⟩) dX12_film_49
            · exact absurd c15 (by decide)
        · exact absurd c6 (by decide)
      · refine lv_if_ne (tgt := 18) hx hb dX12_film_12 (by decide) (fun c50 => ?_) (fun c50 => ?_)
        · exact absurd c50 (by decide)
        · refine lv_bipush (v := (-2)) hx hb dX12_film_15 (by decide) ?_
          exact hw_iretM (v := (-2)) hx hb hr hlocks hQ hS rfl (⟨(-2), fth, rfl, hH, vm, vla, vsz, vth, (by intro j hj h9 i hi; first | rfl | exact inv60_0 _ (hw_frow (p := p2) (fun e => by rw [e] at h9; omega) (by omega) hi))⟩) dX12_film_17
  · refine lv_if_eq (tgt := 15) hx hb dX12_film_5 (by decide) (fun c51 => ?_) (fun c51 => ?_)
    · refine lv_bipush (v := (-2)) hx hb dX12_film_15 (by decide) ?_
      exact hw_iretM (v := (-2)) hx hb hr hlocks hQ hS rfl (⟨(-2), fth, rfl, hH, vm, vla, vsz, vth, (by intro j hj h9 i hi; first | rfl | exact inv60_0 _ (hw_frow (p := p2) (fun e => by rw [e] at h9; omega) (by omega) hi))⟩) dX12_film_17
    · exact absurd c51 (by decide)

set_option maxHeartbeats 4000000 in
set_option maxRecDepth 100000 in
theorem k3_X12_share (l : Launch) (D : hw_D) (G : Nat → Nat) (h0 : Nat) (p1 : Int32) (p2 : Int32) (sz : Nat) (rm : Nat → Nat) (ud_m ky_m lo_m wk_m dk_m ln_m sm_m fi_m be_m rk_m rl_m rw_m cl_m dg_m : Int32) (fla : Nat → Int32) (fsz : Nat → Int32) (fth : Nat → Int64) (G0 : G h0 = 9) (Rm : hw_RM G rm) (gud_m : 0 ≤ ud_m.toInt ∧ ud_m.toInt ≤ 8) (gky_m : 0 ≤ ky_m.toInt ∧ ky_m.toInt ≤ 7) (glo_m : 0 ≤ lo_m.toInt ∧ lo_m.toInt ≤ 7) (gwk_m : 0 ≤ wk_m.toInt ∧ wk_m.toInt ≤ 3) (gln_m : 0 ≤ ln_m.toInt ∧ ln_m.toInt ≤ 200) (gsm_m : 0 ≤ sm_m.toInt ∧ sm_m.toInt ≤ 6) (gfi_m : 0 ≤ fi_m.toInt ∧ fi_m.toInt ≤ 200) (gbe_m : 0 ≤ be_m.toInt ∧ be_m.toInt ≤ 200) (grk_m : 0 ≤ rk_m.toInt ∧ rk_m.toInt ≤ 7) (grl_m : 0 ≤ rl_m.toInt ∧ rl_m.toInt ≤ 7) (grw_m : 0 ≤ rw_m.toInt ∧ rw_m.toInt ≤ 3) (gdg_m : 0 ≤ dg_m.toInt ∧ dg_m.toInt ≤ 1) (qsz : ∀ j, j < 4 → (-1) ≤ (fsz j).toInt ∧ (fsz j).toInt ≤ 24) : Met l yX12_share wsX12_share ({ frames := 2, cells := 0, slots := 0, locals := 45 } : Room) (hw_PC D G [.ref h0, .int p1, .int p2] sz (fun H => va_at D.1 vwCl (h0, .inr (11, hw_LM rm ud_m ky_m lo_m wk_m dk_m ln_m sm_m fi_m be_m rk_m rl_m rw_m cl_m dg_m)) H ∧ va_at D.1 vwCl ((rm 41), .inl (D.2.1 0, 4, .inl fla)) H ∧ va_at D.1 vwCl ((rm 42), .inl (D.2.1 0, 4, .inl fsz)) H ∧ va_at D.1 vwCl ((rm 43), .inl (D.2.1 1, 96, .inr (.inl fth))) H)) (hw_QR (fun v => (v = .long (-2) ∧ ((p1.toInt < 0 ∨ 3 < p1.toInt))) ∨ (v = .long (-3) ∧ ((0 ≤ p1.toInt ∧ p1.toInt ≤ 3)) ∧ (p2.toInt < 0 ∨ 1 < p2.toInt)) ∨ (v = .long (-11) ∧ ((0 ≤ p1.toInt ∧ p1.toInt ≤ 3)) ∧ (0 ≤ p2.toInt ∧ p2.toInt ≤ 1) ∧ (fsz p1.toNatClampNeg).toInt < 0) ∨ (v = .long (-12) ∧ ((0 ≤ p1.toInt ∧ p1.toInt ≤ 3)) ∧ (0 ≤ p2.toInt ∧ p2.toInt ≤ 1) ∧ 0 ≤ (fsz p1.toNatClampNeg).toInt ∧ (fla p1.toNatClampNeg).toInt ≠ 2) ∨ (v = .long (-16) ∧ ((0 ≤ p1.toInt ∧ p1.toInt ≤ 3)) ∧ (0 ≤ p2.toInt ∧ p2.toInt ≤ 1) ∧ (fla p1.toNatClampNeg).toInt = 2 ∧ (fsz p1.toNatClampNeg).toInt = 0) ∨ (∃ (r : Int64), v = .long r ∧ ((0 ≤ p1.toInt ∧ p1.toInt ≤ 3)) ∧ (0 ≤ p2.toInt ∧ p2.toInt ≤ 1) ∧ (fla p1.toNatClampNeg).toInt = 2 ∧ 0 < (fsz p1.toNatClampNeg).toInt ∧ ((∀ u, u < (fsz p1.toNatClampNeg).toNatClampNeg → hw_i32 (fth (24 * p1.toNatClampNeg + u))) → 0 < (fsz p1.toNatClampNeg).toInt → r = hw_share (fun u => fth (24 * p1.toNatClampNeg + u)) (fsz p1.toNatClampNeg) p2)))) 0 0 (fun _ => False) := by
  refine hw_met (cc := cX12_share) (maxL := 12) (ret := (some .long)) (plainFor_of_name (by decide)) rfl (Nat.le_of_ble_eq_true rfl) ?_
  intro p e s m args below meth c QQ ls hsz hx hb hml hr hts hown hlocks hnm hH hK hST hF hQ hl
  subst hsz
  have hS : va_S (hw_AW G [] s.heap.size) s.heap s.heap [] := va_S.rf
  obtain ⟨vm, vla, vsz, vth⟩ := hF
  have hl : lv_has ls 12 [(0, .ref h0), (1, .int p1), (2, .int p2)] := hl
  have u_11 : ∀ w ∈ u_ws RX12 TX12 45, w.before args s = true := fun w hw => hts w ((by decide +kernel : ∀ w ∈ u_ws RX12 TX12 45, w ∈ wsX12_share) w hw)
  have fg_99_11 : hw_FG s args m 99 11 42 := ⟨RX12, "WardWalkersModel", RX12, TX12, 45, u_11, hown, rfl, by decide, (hts (.fieldLink RX12 99 "WardWalkersModel" "sizes" "[I") (by decide +kernel)), (fun _ h9 => h9)⟩
  have fg_102_11 : hw_FG s args m 102 11 43 := ⟨RX12, "WardWalkersModel", RX12, TX12, 45, u_11, hown, rfl, by decide, (hts (.fieldLink RX12 102 "WardWalkersModel" "things" "[J") (by decide +kernel)), (fun _ h9 => h9)⟩
  refine lv_iload_n hx hb dX12_share_0 rfl (lv_at hl 1 rfl) ?_
  refine hw_cR (va_runS (As := [.int p1]) (rest := []) ⟨hx, hb, hml, hown, hts⟩ (k_X12_isRack l D G p1 _) (va_cwS 1 hts gX12_share_X12_isRack rfl rfl rfl (by decide +kernel) ⟨Nat.le_of_ble_eq_true rfl, Nat.le_of_ble_eq_true rfl⟩) (hw_pS hH hK hST hS (by decide) (fun _ h => Or.inl h) trivial) rfl rfl hl.1 rfl (lv_room (Nat.le_of_ble_eq_true rfl)) dX12_share_1 ⟨Nat.le_of_ble_eq_true rfl, Nat.le_of_ble_eq_true rfl⟩) (fun v hp => ?_)
  rcases hp with ⟨rfl, q1⟩ | ⟨rfl, q2⟩
  · refine lv_if_ne (tgt := 11) hx hb dX12_share_4 (by decide) (fun c3 => ?_) (fun c3 => ?_)
    · refine lv_iload_n hx hb dX12_share_11 rfl (lv_at hl 2 rfl) ?_
      refine lv_i2l hx hb dX12_share_12 rfl ?_
      refine lv_topl (fun x4 e5 => ?_)
      have t6 : x4.toInt = p2.toInt := by rw [e5]; exact hw_i2l _
      have rg7 := hw_rng p2
      refine lv_lconst (v := 0) hx hb dX12_share_13 (by decide) ?_
      refine lv_lconst (v := 1) hx hb dX12_share_14 (by decide) ?_
      refine hw_cR (va_runS (As := [.long x4, .long 0, .long 1]) (rest := []) ⟨hx, hb, hml, hown, hts⟩ (k_X12_in l D G x4 0 1 _) (va_cwS 3 hts gX12_share_X12_in rfl rfl rfl (by decide +kernel) ⟨Nat.le_of_ble_eq_true rfl, Nat.le_of_ble_eq_true rfl⟩) (hw_pS hH hK hST hS (by decide) (fun _ h => Or.inl h) trivial) rfl rfl hl.1 rfl (lv_room (Nat.le_of_ble_eq_true rfl)) dX12_share_15 ⟨Nat.le_of_ble_eq_true rfl, Nat.le_of_ble_eq_true rfl⟩) (fun v hp => ?_)
      have l8 : (0 : Int64).toInt = 0 := by decide
      have l9 : (1 : Int64).toInt = 1 := by decide
      rcases hp with ⟨rfl, q10⟩ | ⟨rfl, q11⟩
      · refine lv_if_ne (tgt := 25) hx hb dX12_share_18 (by decide) (fun c12 => ?_) (fun c12 => ?_)
        · refine lv_aload_n hx hb dX12_share_25 rfl (lv_at hl 0 rfl) ?_
          refine lv_iload_n hx hb dX12_share_26 rfl (lv_at hl 1 rfl) ?_
          refine lv_iconst (v := 2) hx hb dX12_share_27 (by decide) ?_
          refine hw_cR (va_runV (As := [.int p1, .int 2]) (rest := []) ⟨hx, hb, hml, hown, hts⟩ (k_X12_noRack l D G h0 p1 2 _ rm ud_m ky_m lo_m wk_m dk_m ln_m sm_m fi_m be_m rk_m rl_m rw_m cl_m dg_m fla fsz G0 Rm ⟨by first | decide | omega, by first | decide | omega⟩ ⟨by first | decide | omega, by first | decide | omega⟩ ⟨by first | decide | omega, by first | decide | omega⟩ ⟨by first | decide | omega, by first | decide | omega⟩ ⟨by first | decide | omega, by first | decide | omega⟩ ⟨by first | decide | omega, by first | decide | omega⟩ ⟨by first | decide | omega, by first | decide | omega⟩ ⟨by first | decide | omega, by first | decide | omega⟩ ⟨by first | decide | omega, by first | decide | omega⟩ ⟨by first | decide | omega, by first | decide | omega⟩ ⟨by first | decide | omega, by first | decide | omega⟩ ⟨by first | decide | omega, by first | decide | omega⟩ qsz (by first | assumption | decide | omega)) (cwV 2 hts gX12_share_X12_noRack rfl rfl rfl (by decide +kernel) ⟨Nat.le_of_ble_eq_true rfl, Nat.le_of_ble_eq_true rfl⟩) (hw_pV (hw_rc (q := (RX12, TX12, 45)) hK vm rfl) hH hK hST hS (by decide) (fun _ h => Or.inl h) ⟨vm, vla, vsz⟩) rfl rfl hl.1 rfl (lv_room (Nat.le_of_ble_eq_true rfl)) dX12_share_28 ⟨Nat.le_of_ble_eq_true rfl, Nat.le_of_ble_eq_true rfl⟩) (fun v hp => ?_)
          have l13 : (2 : Int32).toInt = 2 := rfl
          rcases hp with ⟨rfl, q14⟩ | ⟨rfl, q15, q16⟩ | ⟨rfl, q17, q18⟩
          · refine lv_istore_n (lv' := [(3, .int (-11)), (0, .ref h0), (1, .int p1), (2, .int p2)]) hx hb dX12_share_31 rfl hl (by decide) rfl (fun ls hl => ?_)
            refine lv_iload_n hx hb dX12_share_32 rfl (lv_at hl 0 rfl) ?_
            refine lv_if_eq (tgt := 39) hx hb dX12_share_33 (by decide) (fun c19 => ?_) (fun c19 => ?_)
            · exact absurd c19 (by decide)
            · refine lv_iload_n hx hb dX12_share_36 rfl (lv_at hl 0 rfl) ?_
              refine lv_i2l hx hb dX12_share_37 rfl ?_
              refine lv_topl (fun x20 e21 => ?_)
              have e22 : x20 = (-11) := by rw [e21]; decide
              subst e22
              exact hw_lretR (v := (-11)) hx hb hr hlocks hQ (Or.inr (Or.inr (Or.inl ⟨rfl, (by first | rfl | trivial | assumption | omega | (intros; first | rfl | assumption | omega | (exfalso; omega))), (by first | rfl | trivial | assumption | omega | (intros; first | rfl | assumption | omega | (exfalso; omega))), (by first | rfl | trivial | assumption | omega | (intros; first | rfl | assumption | omega | (exfalso; omega)))⟩))) dX12_share_38
          · refine lv_istore_n (lv' := [(3, .int (-12)), (0, .ref h0), (1, .int p1), (2, .int p2)]) hx hb dX12_share_31 rfl hl (by decide) rfl (fun ls hl => ?_)
            refine lv_iload_n hx hb dX12_share_32 rfl (lv_at hl 0 rfl) ?_
            refine lv_if_eq (tgt := 39) hx hb dX12_share_33 (by decide) (fun c23 => ?_) (fun c23 => ?_)
            · exact absurd c23 (by decide)
            · refine lv_iload_n hx hb dX12_share_36 rfl (lv_at hl 0 rfl) ?_
              refine lv_i2l hx hb dX12_share_37 rfl ?_
              refine lv_topl (fun x24 e25 => ?_)
              have e26 : x24 = (-12) := by rw [e25]; decide
              subst e26
              exact hw_lretR (v := (-12)) hx hb hr hlocks hQ (Or.inr (Or.inr (Or.inr (Or.inl ⟨rfl, (by first | rfl | trivial | assumption | omega | (intros; first | rfl | assumption | omega | (exfalso; omega))), (by first | rfl | trivial | assumption | omega | (intros; first | rfl | assumption | omega | (exfalso; omega))), (by first | rfl | trivial | assumption | omega | (intros; first | rfl | assumption | omega | (exfalso; omega))), (by first | rfl | trivial | assumption | omega | (intros; first | rfl | assumption | omega | (exfalso; omega)))⟩)))) dX12_share_38
          · refine lv_istore_n (lv' := [(3, .int 0), (0, .ref h0), (1, .int p1), (2, .int p2)]) hx hb dX12_share_31 rfl hl (by decide) rfl (fun ls hl => ?_)
            refine lv_iload_n hx hb dX12_share_32 rfl (lv_at hl 0 rfl) ?_
            refine lv_if_eq (tgt := 39) hx hb dX12_share_33 (by decide) (fun c27 => ?_) (fun c27 => ?_)
            · refine lv_aload_n hx hb dX12_share_39 rfl (lv_at hl 1 rfl) ?_
              refine hw_get hx hb fg_99_11 hK vm rfl dX12_share_40 ?_
              refine lv_iload_n hx hb dX12_share_43 rfl (lv_at hl 2 rfl) ?_
              refine hw_iald hx hb hK vsz (hw_in (by omega) (by omega)) dX12_share_44 ?_
              refine lv_topi (fun x28 e29 => ?_)
              have n31 : vp_in p1 4 := (hw_in (by omega) (by omega))
              have t30 : (-1) ≤ x28.toInt ∧ x28.toInt ≤ 24 := by rw [e29]; exact qsz _ (Nat.not_le.mp fun q => n31 (Or.inr q))
              have hs1 : x28.toInt = (fsz p1.toNatClampNeg).toInt := by rw [e29]
              refine lv_if_ne (tgt := 52) hx hb dX12_share_45 (by decide) (fun c32 => ?_) (fun c32 => ?_)
              · have b33 : x28.toInt ≠ 0 := hw_ine c32
                have hs24 := qsz p1.toNatClampNeg (hw_i4 (by omega))
                refine lv_lconst (v := 0) hx hb dX12_share_52 (by decide) ?_
                refine lv_lstore (lv' := [(4, .long 0), (3, .int 0), (0, .ref h0), (1, .int p1), (2, .int p2)]) hx hb dX12_share_53 hl (by decide) rfl (fun ls hl => ?_)
                refine lv_iconst (v := 0) hx hb dX12_share_55 (by decide) ?_
                refine lv_istore (lv' := [(6, .int 0), (4, .long 0), (3, .int 0), (0, .ref h0), (1, .int p1), (2, .int p2)]) hx hb dX12_share_56 hl (by decide) rfl (fun ls hl => ?_)
                have L58 : ∀ (n37 : Nat) (y6_34 : Int32) (y4_35 : Int64) (hm : (24 - y6_34.toInt).toNat < n37) (g36 : 0 ≤ y6_34.toInt ∧ y6_34.toInt ≤ 24) (inv58_0 : y4_35 = hw_lsum (fun u => fth (24 * p1.toNatClampNeg + u)) y6_34.toNatClampNeg) (inv58_1 : y6_34.toInt ≤ (fsz p1.toNatClampNeg).toInt) (ls : Array Slot) (hl : lv_has ls 12 [(6, .int y6_34), (4, .long y4_35), (3, .int 0), (0, .ref h0), (1, .int p1), (2, .int p2)]), W p l e ({ frames := 2, cells := 0, slots := 0, locals := 45 } : Room) s m args below meth c s.heap [] 0 0 QQ (F0 m 58 ls []) := by
                  intro n37
                  induction n37 with
                  | zero => intro y6_34 y4_35 hm; exact absurd hm (Nat.not_lt_zero _)
                  | succ n37 ih58 =>
                    intro y6_34 y4_35 hm g36 inv58_0 inv58_1 ls hl
                    refine lv_iload hx hb dX12_share_58 (lv_at hl 0 rfl) ?_
                    refine lv_aload_n hx hb dX12_share_60 rfl (lv_at hl 3 rfl) ?_
                    refine hw_get hx hb fg_99_11 hK vm rfl dX12_share_61 ?_
                    refine lv_iload_n hx hb dX12_share_64 rfl (lv_at hl 4 rfl) ?_
                    refine hw_iald hx hb hK vsz (hw_in (by omega) (by omega)) dX12_share_65 ?_
                    refine lv_topi (fun x38 e39 => ?_)
                    have t40 : x38.toInt = x28.toInt := by rw [e39, e29]
                    have n42 : vp_in p1 4 := (hw_in (by omega) (by omega))
                    have t41 : (-1) ≤ x38.toInt ∧ x38.toInt ≤ 24 := by rw [e39]; exact qsz _ (Nat.not_le.mp fun q => n42 (Or.inr q))
                    have hs2 : x38.toInt = (fsz p1.toNatClampNeg).toInt := by rw [e39]
                    refine lv_icmp_ge (tgt := 92) hx hb dX12_share_66 (by decide) (fun c43 => ?_) (fun c43 => ?_)
                    · have b44 : x38.toInt ≤ y6_34.toInt := hw_ile c43
                      have hsum : y4_35 = hw_lsum (fun u => fth (24 * p1.toNatClampNeg + u)) (fsz p1.toNatClampNeg).toNatClampNeg := by rw [inv58_0, show y6_34 = fsz p1.toNatClampNeg from Int32.toInt_inj.mp (by omega)]
                      refine lv_lload hx hb dX12_share_92 (lv_at hl 1 rfl) ?_
                      refine lv_lconst (v := 0) hx hb dX12_share_94 (by decide) ?_
                      refine W.lcmp hx hb dX12_share_95 ?_
                      refine lv_topi (fun x45 e46 => ?_)
                      refine lv_if_ge (tgt := 105) hx hb dX12_share_96 (by decide) (fun c47 => ?_) (fun c47 => ?_)
                      · have b48 := hw_cmpge (e46 ▸ c47)
                        have b49 : 0 ≤ y4_35.toInt := hw_Lle b48
                        refine lv_lload hx hb dX12_share_105 (lv_at hl 1 rfl) ?_
                        refine lv_lstore (lv' := [(6, .long y4_35), (4, .long y4_35), (3, .int 0), (0, .ref h0), (1, .int p1), (2, .int p2)]) hx hb dX12_share_107 hl (by decide) rfl (fun ls hl => ?_)
                        have hab : (∀ u, u < (fsz p1.toNatClampNeg).toNatClampNeg → hw_i32 (fth (24 * p1.toNatClampNeg + u))) → 0 < (fsz p1.toNatClampNeg).toInt → 0 ≤ y4_35.toInt ∧ Int.natAbs y4_35.toInt = Int.natAbs y4_35.toInt := by intro h9 h8; have h7 := hw_sumrng2 (f := (fun u => fth (24 * p1.toNatClampNeg + u))) h9 ⟨h8, by omega⟩; rw [← hsum] at h7; first | exact ⟨by omega, rfl⟩ | exact hw_lneg2 rfl (by omega) (by omega)
                        refine lv_aload_n hx hb dX12_share_109 rfl (lv_at hl 3 rfl) ?_
                        refine hw_get hx hb fg_99_11 hK vm rfl dX12_share_110 ?_
                        refine lv_iload_n hx hb dX12_share_113 rfl (lv_at hl 4 rfl) ?_
                        refine hw_iald hx hb hK vsz (hw_in (by omega) (by omega)) dX12_share_114 ?_
                        refine lv_topi (fun x50 e51 => ?_)
                        have t52 : x50.toInt = x28.toInt := by rw [e51, e29]
                        have n54 : vp_in p1 4 := (hw_in (by omega) (by omega))
                        have t53 : (-1) ≤ x50.toInt ∧ x50.toInt ≤ 24 := by rw [e51]; exact qsz _ (Nat.not_le.mp fun q => n54 (Or.inr q))
                        have hs3 : x50.toInt = (fsz p1.toNatClampNeg).toInt := by rw [e51]
                        refine lv_i2l hx hb dX12_share_115 rfl ?_
                        refine lv_topl (fun x55 e56 => ?_)
                        have t57 : x55.toInt = x50.toInt := by rw [e56]; exact hw_i2l _
                        refine lv_lstore (lv' := [(8, .long x55), (6, .long y4_35), (4, .long y4_35), (3, .int 0), (0, .ref h0), (1, .int p1), (2, .int p2)]) hx hb dX12_share_116 hl (by decide) rfl (fun ls hl => ?_)
                        have L118 : ∀ (n60 : Nat) (y8_58 : Int64) (y6_59 : Int64) (hm : y8_58.toInt.natAbs < n60) (inv118_0 : y6_59.toInt ≠ 0 ∨ y8_58.toInt ≠ 0) (inv118_1 : (∀ u, u < (fsz p1.toNatClampNeg).toNatClampNeg → hw_i32 (fth (24 * p1.toNatClampNeg + u))) → 0 < (fsz p1.toNatClampNeg).toInt → 0 ≤ y6_59.toInt ∧ 0 ≤ y8_58.toInt ∧ Int.gcd y6_59.toInt y8_58.toInt = Int.gcd y4_35.toInt (fsz p1.toNatClampNeg).toInt) (ls : Array Slot) (hl : lv_has ls 12 [(8, .long y8_58), (6, .long y6_59), (4, .long y4_35), (3, .int 0), (0, .ref h0), (1, .int p1), (2, .int p2)]), W p l e ({ frames := 2, cells := 0, slots := 0, locals := 45 } : Room) s m args below meth c s.heap [] 0 0 QQ (F0 m 118 ls []) := by
                          intro n60
                          induction n60 with
                          | zero => intro y8_58 y6_59 hm; exact absurd hm (Nat.not_lt_zero _)
                          | succ n60 ih118 =>
                            intro y8_58 y6_59 hm inv118_0 inv118_1 ls hl
                            refine lv_lload hx hb dX12_share_118 (lv_at hl 0 rfl) ?_
                            refine lv_lconst (v := 0) hx hb dX12_share_120 (by decide) ?_
                            refine W.lcmp hx hb dX12_share_121 ?_
                            refine lv_topi (fun x61 e62 => ?_)
                            refine lv_if_eq (tgt := 143) hx hb dX12_share_122 (by decide) (fun c63 => ?_) (fun c63 => ?_)
                            · have b64 := hw_cmpeq (e62 ▸ c63)
                              have b65 : y8_58.toInt = 0 := hw_Leq b64
                              have hgm : (∀ u, u < (fsz p1.toNatClampNeg).toNatClampNeg → hw_i32 (fth (24 * p1.toNatClampNeg + u))) → 0 < (fsz p1.toNatClampNeg).toInt → y6_59.toInt = (Int.gcd y4_35.toInt (fsz p1.toNatClampNeg).toInt : Int) := by intro h9 h8; obtain ⟨h7, h6, h5⟩ := inv118_1 h9 h8; rw [← h5, show y8_58.toInt = 0 from by omega]; exact (hw_gcd0 h7).symm
                              refine lv_iload_n hx hb dX12_share_143 rfl (lv_at hl 6 rfl) ?_
                              refine lv_iconst (v := 1) hx hb dX12_share_144 (by decide) ?_
                              refine lv_icmp_ne (tgt := 161) hx hb dX12_share_145 (by decide) (fun c66 => ?_) (fun c66 => ?_)
                              · have b67 : p2.toInt ≠ 1 := hw_ine c66
                                refine lv_lload hx hb dX12_share_161 (lv_at hl 2 rfl) ?_
                                refine lv_lload hx hb dX12_share_163 (lv_at hl 1 rfl) ?_
                                refine lv_ldiv hx hb dX12_share_165 (fun h9 => by have h8 := hw_Leq h9; omega) ?_
                                refine lv_topl (fun x68 e69 => ?_)
                                refine lv_ldc2 (v := 100000000000) hx hb hown (hts (.constantLong RX12 337 (100000000000)) (by decide +kernel)) dX12_share_166 ?_
                                refine lv_ladd hx hb dX12_share_169  ?_
                                refine lv_topl (fun x70 e71 => ?_)
                                exact hw_lretR (v := x70) hx hb hr hlocks hQ (Or.inr (Or.inr (Or.inr (Or.inr (Or.inr (⟨x70, rfl, (by first | rfl | trivial | assumption | omega | (intros; first | rfl | assumption | omega | (exfalso; omega))), (by first | rfl | trivial | assumption | omega | (intros; first | rfl | assumption | omega | (exfalso; omega))), (by first | rfl | trivial | assumption | omega | (intros; first | rfl | assumption | omega | (exfalso; omega))), (by first | rfl | trivial | assumption | omega | (intros; first | rfl | assumption | omega | (exfalso; omega))), (by intro h9 h8; have h7 := hw_shareM (part := p2) hsum (hgm h9 h8); first | (rw [e71, hs6, hs5]; exact h7.2 (by omega)) | (rw [← h7.1 (by omega), e71]; congr 1))⟩)))))) dX12_share_170
                              · have b72 : p2.toInt = 1 := hw_ieq c66
                                refine lv_aload_n hx hb dX12_share_148 rfl (lv_at hl 4 rfl) ?_
                                refine hw_get hx hb fg_99_11 hK vm rfl dX12_share_149 ?_
                                refine lv_iload_n hx hb dX12_share_152 rfl (lv_at hl 5 rfl) ?_
                                refine hw_iald hx hb hK vsz (hw_in (by omega) (by omega)) dX12_share_153 ?_
                                refine lv_topi (fun x73 e74 => ?_)
                                have t75 : x73.toInt = x28.toInt := by rw [e74, e29]
                                have n77 : vp_in p1 4 := (hw_in (by omega) (by omega))
                                have t76 : (-1) ≤ x73.toInt ∧ x73.toInt ≤ 24 := by rw [e74]; exact qsz _ (Nat.not_le.mp fun q => n77 (Or.inr q))
                                have hs5 := e74
                                refine lv_i2l hx hb dX12_share_154 rfl ?_
                                refine lv_topl (fun x78 e79 => ?_)
                                have t80 : x78.toInt = x73.toInt := by rw [e79]; exact hw_i2l _
                                have hs6 := e79
                                refine lv_lload hx hb dX12_share_155 (lv_at hl 1 rfl) ?_
                                refine lv_ldiv hx hb dX12_share_157 (fun h9 => by have h8 := hw_Leq h9; omega) ?_
                                refine lv_topl (fun x81 e82 => ?_)
                                refine lv_goto (tgt := 170) hx hb dX12_share_158 (by decide) ?_
                                exact hw_lretR (v := x81) hx hb hr hlocks hQ (Or.inr (Or.inr (Or.inr (Or.inr (Or.inr (⟨x81, rfl, (by first | rfl | trivial | assumption | omega | (intros; first | rfl | assumption | omega | (exfalso; omega))), (by first | rfl | trivial | assumption | omega | (intros; first | rfl | assumption | omega | (exfalso; omega))), (by first | rfl | trivial | assumption | omega | (intros; first | rfl | assumption | omega | (exfalso; omega))), (by first | rfl | trivial | assumption | omega | (intros; first | rfl | assumption | omega | (exfalso; omega))), (by intro h9 h8; have h7 := hw_shareM (part := p2) hsum (hgm h9 h8); first | (rw [e82, hs6, hs5]; exact h7.2 (by omega)) | (rw [← h7.1 (by omega), e82]; congr 1))⟩)))))) dX12_share_170
                            · have b83 := hw_cmpneq (e62 ▸ c63)
                              have b84 : y8_58.toInt ≠ 0 := hw_Lne b83
                              refine lv_lload hx hb dX12_share_125 (lv_at hl 1 rfl) ?_
                              refine lv_lload hx hb dX12_share_127 (lv_at hl 0 rfl) ?_
                              refine lv_lrem hx hb dX12_share_129 (by assumption) ?_
                              refine lv_topl (fun x85 e86 => ?_)
                              have t87 : x85.toInt.natAbs < y8_58.toInt.natAbs := by rw [e86]; exact hw_lrem (by assumption)
                              have hr9 := (e86).trans (hw_lrem_eq _ _)
                              refine lv_lstore (lv' := [(10, .long x85), (8, .long y8_58), (6, .long y6_59), (4, .long y4_35), (3, .int 0), (0, .ref h0), (1, .int p1), (2, .int p2)]) hx hb dX12_share_130 hl (by decide) rfl (fun ls hl => ?_)
                              refine lv_lload hx hb dX12_share_132 (lv_at hl 1 rfl) ?_
                              refine lv_lstore (lv' := [(6, .long y8_58), (10, .long x85), (8, .long y8_58), (4, .long y4_35), (3, .int 0), (0, .ref h0), (1, .int p1), (2, .int p2)]) hx hb dX12_share_134 hl (by decide) rfl (fun ls hl => ?_)
                              refine lv_lload hx hb dX12_share_136 (lv_at hl 1 rfl) ?_
                              refine lv_lstore (lv' := [(8, .long x85), (6, .long y8_58), (10, .long x85), (4, .long y4_35), (3, .int 0), (0, .ref h0), (1, .int p1), (2, .int p2)]) hx hb dX12_share_138 hl (by decide) rfl (fun ls hl => ?_)
                              refine lv_goto (tgt := 118) hx hb dX12_share_140 (by decide) ?_
                              exact ih118 x85 y8_58 (by first | omega | omega) (by first | assumption | omega | decide | rfl | (intros; first | rfl | assumption | omega)) (by intro h9 h8; obtain ⟨h7, h6, h5⟩ := inv118_1 h9 h8; have h4 := hw_lrems h7 (show 0 < y8_58.toInt by omega) hr9; exact ⟨by omega, by omega, (hw_gcd_step hr9).trans h5⟩) _ (lv_sub hl [0, 1, 3, 4, 5, 6, 7] rfl)
                        exact L118 _ x55 y4_35 (Nat.lt_succ_self _) (by first | assumption | omega | decide | rfl | (intros; first | rfl | assumption | omega)) (by intro h9 h8; obtain ⟨h7, h6⟩ := hab h9 h8; exact ⟨h7, by omega, by rw [show x55.toInt = (fsz p1.toNatClampNeg).toInt from by omega, hw_gcdabs h6]⟩) _ (lv_sub hl [0, 1, 2, 3, 4, 5, 6] rfl)
                      · have b88 := hw_cmpnge (e46 ▸ c47)
                        have b89 : y4_35.toInt < 0 := hw_Lnle b88
                        refine lv_lload hx hb dX12_share_99 (lv_at hl 1 rfl) ?_
                        refine lv_lneg hx hb dX12_share_101 ?_
                        refine lv_topl (fun x90 e91 => ?_)
                        refine lv_goto (tgt := 107) hx hb dX12_share_102 (by decide) ?_
                        refine lv_lstore (lv' := [(6, .long x90), (4, .long y4_35), (3, .int 0), (0, .ref h0), (1, .int p1), (2, .int p2)]) hx hb dX12_share_107 hl (by decide) rfl (fun ls hl => ?_)
                        have hab : (∀ u, u < (fsz p1.toNatClampNeg).toNatClampNeg → hw_i32 (fth (24 * p1.toNatClampNeg + u))) → 0 < (fsz p1.toNatClampNeg).toInt → 0 ≤ x90.toInt ∧ Int.natAbs x90.toInt = Int.natAbs y4_35.toInt := by intro h9 h8; have h7 := hw_sumrng2 (f := (fun u => fth (24 * p1.toNatClampNeg + u))) h9 ⟨h8, by omega⟩; rw [← hsum] at h7; first | exact ⟨by omega, rfl⟩ | exact hw_lneg2 e91 (by omega) (by omega)
                        refine lv_aload_n hx hb dX12_share_109 rfl (lv_at hl 3 rfl) ?_
                        refine hw_get hx hb fg_99_11 hK vm rfl dX12_share_110 ?_
                        refine lv_iload_n hx hb dX12_share_113 rfl (lv_at hl 4 rfl) ?_
                        refine hw_iald hx hb hK vsz (hw_in (by omega) (by omega)) dX12_share_114 ?_
                        refine lv_topi (fun x92 e93 => ?_)
                        have t94 : x92.toInt = x28.toInt := by rw [e93, e29]
                        have n96 : vp_in p1 4 := (hw_in (by omega) (by omega))
                        have t95 : (-1) ≤ x92.toInt ∧ x92.toInt ≤ 24 := by rw [e93]; exact qsz _ (Nat.not_le.mp fun q => n96 (Or.inr q))
                        have hs3 : x92.toInt = (fsz p1.toNatClampNeg).toInt := by rw [e93]
                        refine lv_i2l hx hb dX12_share_115 rfl ?_
                        refine lv_topl (fun x97 e98 => ?_)
                        have t99 : x97.toInt = x92.toInt := by rw [e98]; exact hw_i2l _
                        refine lv_lstore (lv' := [(8, .long x97), (6, .long x90), (4, .long y4_35), (3, .int 0), (0, .ref h0), (1, .int p1), (2, .int p2)]) hx hb dX12_share_116 hl (by decide) rfl (fun ls hl => ?_)
                        have L118 : ∀ (n102 : Nat) (y8_100 : Int64) (y6_101 : Int64) (hm : y8_100.toInt.natAbs < n102) (inv118_0 : y6_101.toInt ≠ 0 ∨ y8_100.toInt ≠ 0) (inv118_1 : (∀ u, u < (fsz p1.toNatClampNeg).toNatClampNeg → hw_i32 (fth (24 * p1.toNatClampNeg + u))) → 0 < (fsz p1.toNatClampNeg).toInt → 0 ≤ y6_101.toInt ∧ 0 ≤ y8_100.toInt ∧ Int.gcd y6_101.toInt y8_100.toInt = Int.gcd y4_35.toInt (fsz p1.toNatClampNeg).toInt) (ls : Array Slot) (hl : lv_has ls 12 [(8, .long y8_100), (6, .long y6_101), (4, .long y4_35), (3, .int 0), (0, .ref h0), (1, .int p1), (2, .int p2)]), W p l e ({ frames := 2, cells := 0, slots := 0, locals := 45 } : Room) s m args below meth c s.heap [] 0 0 QQ (F0 m 118 ls []) := by
                          intro n102
                          induction n102 with
                          | zero => intro y8_100 y6_101 hm; exact absurd hm (Nat.not_lt_zero _)
                          | succ n102 ih118 =>
                            intro y8_100 y6_101 hm inv118_0 inv118_1 ls hl
                            refine lv_lload hx hb dX12_share_118 (lv_at hl 0 rfl) ?_
                            refine lv_lconst (v := 0) hx hb dX12_share_120 (by decide) ?_
                            refine W.lcmp hx hb dX12_share_121 ?_
                            refine lv_topi (fun x103 e104 => ?_)
                            refine lv_if_eq (tgt := 143) hx hb dX12_share_122 (by decide) (fun c105 => ?_) (fun c105 => ?_)
                            · have b106 := hw_cmpeq (e104 ▸ c105)
                              have b107 : y8_100.toInt = 0 := hw_Leq b106
                              have hgm : (∀ u, u < (fsz p1.toNatClampNeg).toNatClampNeg → hw_i32 (fth (24 * p1.toNatClampNeg + u))) → 0 < (fsz p1.toNatClampNeg).toInt → y6_101.toInt = (Int.gcd y4_35.toInt (fsz p1.toNatClampNeg).toInt : Int) := by intro h9 h8; obtain ⟨h7, h6, h5⟩ := inv118_1 h9 h8; rw [← h5, show y8_100.toInt = 0 from by omega]; exact (hw_gcd0 h7).symm
                              refine lv_iload_n hx hb dX12_share_143 rfl (lv_at hl 6 rfl) ?_
                              refine lv_iconst (v := 1) hx hb dX12_share_144 (by decide) ?_
                              refine lv_icmp_ne (tgt := 161) hx hb dX12_share_145 (by decide) (fun c108 => ?_) (fun c108 => ?_)
                              · have b109 : p2.toInt ≠ 1 := hw_ine c108
                                refine lv_lload hx hb dX12_share_161 (lv_at hl 2 rfl) ?_
                                refine lv_lload hx hb dX12_share_163 (lv_at hl 1 rfl) ?_
                                refine lv_ldiv hx hb dX12_share_165 (fun h9 => by have h8 := hw_Leq h9; omega) ?_
                                refine lv_topl (fun x110 e111 => ?_)
                                refine lv_ldc2 (v := 100000000000) hx hb hown (hts (.constantLong RX12 337 (100000000000)) (by decide +kernel)) dX12_share_166 ?_
                                refine lv_ladd hx hb dX12_share_169  ?_
                                refine lv_topl (fun x112 e113 => ?_)
                                exact hw_lretR (v := x112) hx hb hr hlocks hQ (Or.inr (Or.inr (Or.inr (Or.inr (Or.inr (⟨x112, rfl, (by first | rfl | trivial | assumption | omega | (intros; first | rfl | assumption | omega | (exfalso; omega))), (by first | rfl | trivial | assumption | omega | (intros; first | rfl | assumption | omega | (exfalso; omega))), (by first | rfl | trivial | assumption | omega | (intros; first | rfl | assumption | omega | (exfalso; omega))), (by first | rfl | trivial | assumption | omega | (intros; first | rfl | assumption | omega | (exfalso; omega))), (by intro h9 h8; have h7 := hw_shareM (part := p2) hsum (hgm h9 h8); first | (rw [e113, hs6, hs5]; exact h7.2 (by omega)) | (rw [← h7.1 (by omega), e113]; congr 1))⟩)))))) dX12_share_170
                              · have b114 : p2.toInt = 1 := hw_ieq c108
                                refine lv_aload_n hx hb dX12_share_148 rfl (lv_at hl 4 rfl) ?_
                                refine hw_get hx hb fg_99_11 hK vm rfl dX12_share_149 ?_
                                refine lv_iload_n hx hb dX12_share_152 rfl (lv_at hl 5 rfl) ?_
                                refine hw_iald hx hb hK vsz (hw_in (by omega) (by omega)) dX12_share_153 ?_
                                refine lv_topi (fun x115 e116 => ?_)
                                have t117 : x115.toInt = x28.toInt := by rw [e116, e29]
                                have n119 : vp_in p1 4 := (hw_in (by omega) (by omega))
                                have t118 : (-1) ≤ x115.toInt ∧ x115.toInt ≤ 24 := by rw [e116]; exact qsz _ (Nat.not_le.mp fun q => n119 (Or.inr q))
                                have hs5 := e116
                                refine lv_i2l hx hb dX12_share_154 rfl ?_
                                refine lv_topl (fun x120 e121 => ?_)
                                have t122 : x120.toInt = x115.toInt := by rw [e121]; exact hw_i2l _
                                have hs6 := e121
                                refine lv_lload hx hb dX12_share_155 (lv_at hl 1 rfl) ?_
                                refine lv_ldiv hx hb dX12_share_157 (fun h9 => by have h8 := hw_Leq h9; omega) ?_
                                refine lv_topl (fun x123 e124 => ?_)
                                refine lv_goto (tgt := 170) hx hb dX12_share_158 (by decide) ?_
                                exact hw_lretR (v := x123) hx hb hr hlocks hQ (Or.inr (Or.inr (Or.inr (Or.inr (Or.inr (⟨x123, rfl, (by first | rfl | trivial | assumption | omega | (intros; first | rfl | assumption | omega | (exfalso; omega))), (by first | rfl | trivial | assumption | omega | (intros; first | rfl | assumption | omega | (exfalso; omega))), (by first | rfl | trivial | assumption | omega | (intros; first | rfl | assumption | omega | (exfalso; omega))), (by first | rfl | trivial | assumption | omega | (intros; first | rfl | assumption | omega | (exfalso; omega))), (by intro h9 h8; have h7 := hw_shareM (part := p2) hsum (hgm h9 h8); first | (rw [e124, hs6, hs5]; exact h7.2 (by omega)) | (rw [← h7.1 (by omega), e124]; congr 1))⟩)))))) dX12_share_170
                            · have b125 := hw_cmpneq (e104 ▸ c105)
                              have b126 : y8_100.toInt ≠ 0 := hw_Lne b125
                              refine lv_lload hx hb dX12_share_125 (lv_at hl 1 rfl) ?_
                              refine lv_lload hx hb dX12_share_127 (lv_at hl 0 rfl) ?_
                              refine lv_lrem hx hb dX12_share_129 (by assumption) ?_
                              refine lv_topl (fun x127 e128 => ?_)
                              have t129 : x127.toInt.natAbs < y8_100.toInt.natAbs := by rw [e128]; exact hw_lrem (by assumption)
                              have hr9 := (e128).trans (hw_lrem_eq _ _)
                              refine lv_lstore (lv' := [(10, .long x127), (8, .long y8_100), (6, .long y6_101), (4, .long y4_35), (3, .int 0), (0, .ref h0), (1, .int p1), (2, .int p2)]) hx hb dX12_share_130 hl (by decide) rfl (fun ls hl => ?_)
                              refine lv_lload hx hb dX12_share_132 (lv_at hl 1 rfl) ?_
                              refine lv_lstore (lv' := [(6, .long y8_100), (10, .long x127), (8, .long y8_100), (4, .long y4_35), (3, .int 0), (0, .ref h0), (1, .int p1), (2, .int p2)]) hx hb dX12_share_134 hl (by decide) rfl (fun ls hl => ?_)
                              refine lv_lload hx hb dX12_share_136 (lv_at hl 1 rfl) ?_
                              refine lv_lstore (lv' := [(8, .long x127), (6, .long y8_100), (10, .long x127), (4, .long y4_35), (3, .int 0), (0, .ref h0), (1, .int p1), (2, .int p2)]) hx hb dX12_share_138 hl (by decide) rfl (fun ls hl => ?_)
                              refine lv_goto (tgt := 118) hx hb dX12_share_140 (by decide) ?_
                              exact ih118 x127 y8_100 (by first | omega | omega) (by first | assumption | omega | decide | rfl | (intros; first | rfl | assumption | omega)) (by intro h9 h8; obtain ⟨h7, h6, h5⟩ := inv118_1 h9 h8; have h4 := hw_lrems h7 (show 0 < y8_100.toInt by omega) hr9; exact ⟨by omega, by omega, (hw_gcd_step hr9).trans h5⟩) _ (lv_sub hl [0, 1, 3, 4, 5, 6, 7] rfl)
                        exact L118 _ x97 x90 (Nat.lt_succ_self _) (by first | assumption | omega | decide | rfl | (intros; first | rfl | assumption | omega)) (by intro h9 h8; obtain ⟨h7, h6⟩ := hab h9 h8; exact ⟨h7, by omega, by rw [show x97.toInt = (fsz p1.toNatClampNeg).toInt from by omega, hw_gcdabs h6]⟩) _ (lv_sub hl [0, 1, 2, 3, 4, 5, 6] rfl)
                    · have b130 : y6_34.toInt < x38.toInt := hw_inle c43
                      refine lv_lload hx hb dX12_share_69 (lv_at hl 1 rfl) ?_
                      refine lv_aload_n hx hb dX12_share_71 rfl (lv_at hl 3 rfl) ?_
                      refine hw_get hx hb fg_102_11 hK vm rfl dX12_share_72 ?_
                      refine lv_bipush (v := 24) hx hb dX12_share_75 (by decide) ?_
                      refine lv_iload_n hx hb dX12_share_77 rfl (lv_at hl 4 rfl) ?_
                      refine lv_imul hx hb dX12_share_78 ?_
                      refine lv_topi (fun x131 e132 => ?_)
                      have t133 : x131.toInt = 24 * p1.toInt := by rw [e132]; exact hw_mul rfl rfl (by omega) (by omega)
                      refine lv_iload hx hb dX12_share_79 (lv_at hl 0 rfl) ?_
                      refine lv_iadd hx hb dX12_share_81 ?_
                      refine lv_topi (fun x134 e135 => ?_)
                      have t136 : x134.toInt = x131.toInt + y6_34.toInt := by rw [e135]; exact hw_add rfl rfl (by omega) (by omega)
                      have hqi : x134.toNatClampNeg = 24 * p1.toNatClampNeg + y6_34.toNatClampNeg := by rw [hw_tc, hw_tc, hw_tc]; omega
                      refine hw_lald hx hb hK vth (hw_in (by omega) (by omega)) dX12_share_82 ?_
                      refine lv_topl (fun x137 e138 => ?_)
                      have hz := e138
                      refine lv_ladd hx hb dX12_share_83  ?_
                      refine lv_topl (fun x139 e140 => ?_)
                      refine lv_lstore (lv' := [(4, .long x139), (6, .int y6_34), (3, .int 0), (0, .ref h0), (1, .int p1), (2, .int p2)]) hx hb dX12_share_84 hl (by decide) rfl (fun ls hl => ?_)
                      obtain ⟨x141, e142⟩ : ∃ y : Int32, y = y6_34 + 1 := ⟨_, rfl⟩
                      refine lv_iinc (v := x141) (lv' := [(6, .int x141), (4, .long x139), (3, .int 0), (0, .ref h0), (1, .int p1), (2, .int p2)]) hx hb dX12_share_86 hl (k := 1) rfl (by rw [e142]; rfl) (by decide) rfl (fun ls hl => ?_)
                      have t143 : x141.toInt = y6_34.toInt + 1 := by rw [e142]; exact hw_add rfl rfl (by omega) (by omega)
                      refine lv_goto (tgt := 58) hx hb dX12_share_89 (by decide) ?_
                      exact ih58 x141 x139 (by first | omega | omega) ⟨by first | decide | omega, by first | decide | omega⟩ (by rw [e140, hz, hqi, inv58_0, hw_cls (x := y6_34) (y := x141) (by omega) (by omega)]; rfl) (by omega) _ (lv_sub hl [0, 1, 2, 3, 4, 5] rfl)
                exact L58 _ 0 0 (Nat.lt_succ_self _) ⟨by first | decide | omega, by first | decide | omega⟩ (by rfl) (by have h3 : (0 : Int32).toInt = 0 := rfl; omega) _ (lv_sub hl [0, 1, 2, 3, 4, 5] rfl)
              · have b144 : x28.toInt = 0 := hw_ieq c32
                refine lv_ldc2 (v := (-16)) hx hb hown (hts (.constantLong RX12 335 (-16)) (by decide +kernel)) dX12_share_48 ?_
                exact hw_lretR (v := (-16)) hx hb hr hlocks hQ (Or.inr (Or.inr (Or.inr (Or.inr (Or.inl ⟨rfl, (by first | rfl | trivial | assumption | omega | (intros; first | rfl | assumption | omega | (exfalso; omega))), (by first | rfl | trivial | assumption | omega | (intros; first | rfl | assumption | omega | (exfalso; omega))), (by first | rfl | trivial | assumption | omega | (intros; first | rfl | assumption | omega | (exfalso; omega))), (by first | rfl | trivial | assumption | omega | (intros; first | rfl | assumption | omega | (exfalso; omega)))⟩))))) dX12_share_51
            · exact absurd c27 (by decide)
        · exact absurd c12 (by decide)
      · refine lv_if_ne (tgt := 25) hx hb dX12_share_18 (by decide) (fun c145 => ?_) (fun c145 => ?_)
        · exact absurd c145 (by decide)
        · refine lv_ldc2 (v := (-3)) hx hb hown (hts (.constantLong RX12 333 (-3)) (by decide +kernel)) dX12_share_21 ?_
          exact hw_lretR (v := (-3)) hx hb hr hlocks hQ (Or.inr (Or.inl ⟨rfl, (by first | rfl | trivial | assumption | omega | (intros; first | rfl | assumption | omega | (exfalso; omega))), (by first | rfl | trivial | assumption | omega | (intros; first | rfl | assumption | omega | (exfalso; omega)))⟩)) dX12_share_24
    · exact absurd c3 (by decide)
  · refine lv_if_ne (tgt := 11) hx hb dX12_share_4 (by decide) (fun c146 => ?_) (fun c146 => ?_)
    · exact absurd c146 (by decide)
    · refine lv_ldc2 (v := (-2)) hx hb hown (hts (.constantLong RX12 319 (-2)) (by decide +kernel)) dX12_share_7 ?_
      exact hw_lretR (v := (-2)) hx hb hr hlocks hQ (Or.inl ⟨rfl, (by first | rfl | trivial | assumption | omega | (intros; first | rfl | assumption | omega | (exfalso; omega)))⟩) dX12_share_10
