set_option maxHeartbeats 4000000 in
set_option maxRecDepth 100000 in
theorem k_X11_isLane (l : Launch) (D : hw_D) (G : Nat → Nat) (p1 : Int32) (sz : Nat) : Met l yX11_isLane wsX11_isLane ({ frames := 0, cells := 0, slots := 0, locals := 0 } : Room) (hw_PC D G [.int p1] sz (fun H => True)) (hw_QR (fun v => (v = .int 1 ∧ (0 ≤ p1.toInt ∧ p1.toInt ≤ 4)) ∨ (v = .int 0 ∧ (p1.toInt < 0 ∨ 4 < p1.toInt)))) 0 0 (fun _ => False) := by
  refine hw_met (cc := cX11_isLane) (maxL := 1) (ret := (some .boolean)) (plainFor_of_name (by decide)) rfl (Nat.le_of_ble_eq_true rfl) ?_
  intro p e s m args below meth c QQ ls hsz hx hb hml hr hts hown hlocks hnm hH hK hST hF hQ hl
  subst hsz
  have hS : va_S (hw_AW G [] s.heap.size) s.heap s.heap [] := va_S.rf
  have hl : lv_has ls 1 [(0, .int p1)] := hl
  refine lv_iload_n hx hb dX11_isLane_0 rfl (lv_at hl 0 rfl) ?_
  refine lv_if_lt (tgt := 13) hx hb dX11_isLane_1 (by decide) (fun c1 => ?_) (fun c1 => ?_)
  · have b2 : p1.toInt < 0 := hw_ilt c1
    refine lv_iconst (v := 0) hx hb dX11_isLane_13 (by decide) ?_
    exact hw_iretR (v := 0) hx hb hr hlocks hQ rfl (Or.inr (⟨rfl, (by first | rfl | trivial | assumption | omega | (intros; first | rfl | assumption | omega | (exfalso; omega)))⟩)) dX11_isLane_14
  · have b3 : 0 ≤ p1.toInt := hw_inlt c1
    refine lv_iload_n hx hb dX11_isLane_4 rfl (lv_at hl 0 rfl) ?_
    refine lv_iconst (v := 4) hx hb dX11_isLane_5 (by decide) ?_
    refine lv_icmp_gt (tgt := 13) hx hb dX11_isLane_6 (by decide) (fun c4 => ?_) (fun c4 => ?_)
    · have b5 : 4 < p1.toInt := hw_ilt c4
      refine lv_iconst (v := 0) hx hb dX11_isLane_13 (by decide) ?_
      exact hw_iretR (v := 0) hx hb hr hlocks hQ rfl (Or.inr (⟨rfl, (by first | rfl | trivial | assumption | omega | (intros; first | rfl | assumption | omega | (exfalso; omega)))⟩)) dX11_isLane_14
    · have b6 : p1.toInt ≤ 4 := hw_inlt c4
      refine lv_iconst (v := 1) hx hb dX11_isLane_9 (by decide) ?_
      refine lv_goto (tgt := 14) hx hb dX11_isLane_10 (by decide) ?_
      exact hw_iretR (v := 1) hx hb hr hlocks hQ rfl (Or.inl ⟨rfl, (by first | rfl | trivial | assumption | omega | (intros; first | rfl | assumption | omega | (exfalso; omega)))⟩) dX11_isLane_14

set_option maxHeartbeats 4000000 in
set_option maxRecDepth 100000 in
theorem k_X11_rackAt (l : Launch) (D : hw_D) (G : Nat → Nat) (h0 : Nat) (p1 : Int32) (sz : Nat) (rx : Nat → Nat) (pn_x pc_x ks_x sc_x : Int32) (fq : Nat → Option Nat) (G0 : G h0 = 1) (Rx : hw_RX G rx) (gsc_x : 0 ≤ sc_x.toInt ∧ sc_x.toInt ≤ 6) (qq : ∀ j, j < 4 → ∃ b, fq j = some b ∧ G b = 6) : Met l yX11_rackAt wsX11_rackAt ({ frames := 0, cells := 0, slots := 0, locals := 0 } : Room) (hw_PC D G [.ref h0, .int p1] sz (fun H => va_at D.1 vwCl (h0, .inr (10, hw_LX rx pn_x pc_x ks_x sc_x)) H ∧ va_at D.1 vwCl ((rx 13), .inl (D.2.1 7, 4, .inr (.inr (.inr (.inr fq))))) H)) (hw_QR (fun v => (v = .null ∧ (p1.toInt < 0 ∨ 3 < p1.toInt)) ∨ (∃ (r : Nat), v = .ref r ∧ G r = 6 ∧ (0 ≤ p1.toInt ∧ p1.toInt ≤ 3) ∧ fq p1.toNatClampNeg = some r))) 0 0 (fun _ => False) := by
  refine hw_met (cc := cX11_rackAt) (maxL := 2) (ret := (some (.object "WardWalkers$Rack"))) (plainFor_of_name (by decide)) rfl (Nat.le_of_ble_eq_true rfl) ?_
  intro p e s m args below meth c QQ ls hsz hx hb hml hr hts hown hlocks hnm hH hK hST hF hQ hl
  subst hsz
  have hS : va_S (hw_AW G [] s.heap.size) s.heap s.heap [] := va_S.rf
  obtain ⟨vx, vq⟩ := hF
  have hl : lv_has ls 2 [(0, .ref h0), (1, .int p1)] := hl
  have u_10 : ∀ w ∈ u_ws RX11 TX11 14, w.before args s = true := fun w hw => hts w ((by decide +kernel : ∀ w ∈ u_ws RX11 TX11 14, w ∈ wsX11_rackAt) w hw)
  have fg_57_10 : hw_FG s args m 57 10 13 := ⟨RX11, "WardWalkers", RX11, TX11, 14, u_10, hown, rfl, by decide, (hts (.fieldLink RX11 57 "WardWalkers" "racks" "[LWardWalkers$Rack;") (by decide +kernel)), (fun _ h9 => h9)⟩
  refine lv_iload_n hx hb dX11_rackAt_0 rfl (lv_at hl 1 rfl) ?_
  refine lv_if_lt (tgt := 18) hx hb dX11_rackAt_1 (by decide) (fun c1 => ?_) (fun c1 => ?_)
  · have b2 : p1.toInt < 0 := hw_ilt c1
    refine lv_null hx hb dX11_rackAt_18 ?_
    exact hw_aretR (v := .null) hx hb hr (Or.inl ⟨_, rfl⟩) hlocks hQ (Or.inl rfl) (Or.inl ⟨rfl, (by first | rfl | trivial | assumption | omega | (intros; first | rfl | assumption | omega | (exfalso; omega)))⟩) dX11_rackAt_19
  · have b3 : 0 ≤ p1.toInt := hw_inlt c1
    refine lv_iload_n hx hb dX11_rackAt_4 rfl (lv_at hl 1 rfl) ?_
    refine lv_iconst (v := 4) hx hb dX11_rackAt_5 (by decide) ?_
    refine lv_icmp_ge (tgt := 18) hx hb dX11_rackAt_6 (by decide) (fun c4 => ?_) (fun c4 => ?_)
    · have b5 : 4 ≤ p1.toInt := hw_ile c4
      refine lv_null hx hb dX11_rackAt_18 ?_
      exact hw_aretR (v := .null) hx hb hr (Or.inl ⟨_, rfl⟩) hlocks hQ (Or.inl rfl) (Or.inl ⟨rfl, (by first | rfl | trivial | assumption | omega | (intros; first | rfl | assumption | omega | (exfalso; omega)))⟩) dX11_rackAt_19
    · have b6 : p1.toInt < 4 := hw_inle c4
      refine lv_aload_n hx hb dX11_rackAt_9 rfl (lv_at hl 0 rfl) ?_
      refine hw_get hx hb fg_57_10 hK vx rfl dX11_rackAt_10 ?_
      refine lv_iload_n hx hb dX11_rackAt_13 rfl (lv_at hl 1 rfl) ?_
      have n7 : vp_in p1 4 := (hw_in (by omega) (by omega))
      refine hw_aald (t := 7) hx hb hK vq rfl n7 dX11_rackAt_14 ?_
      have l8 : p1.toNatClampNeg < 4 := Nat.not_le.mp fun q => n7 (Or.inr q)
      obtain ⟨b9, e10, k11⟩ := qq _ l8
      rw [e10]
      refine W.eq (g2 := F0 m 15 ls [.ref b9]) rfl ?_
      refine lv_goto (tgt := 19) hx hb dX11_rackAt_15 (by decide) ?_
      exact hw_aretR (v := .ref b9) hx hb hr (Or.inl ⟨_, rfl⟩) hlocks hQ (Or.inr ⟨_, rfl⟩) (Or.inr (⟨b9, rfl, k11, (by first | rfl | trivial | assumption | omega | (intros; first | rfl | assumption | omega | (exfalso; omega))), (by first | rfl | trivial | assumption | omega | (intros; first | rfl | assumption | omega | (exfalso; omega)))⟩)) dX11_rackAt_19

set_option maxHeartbeats 4000000 in
set_option maxRecDepth 100000 in
theorem k_X11_racksThere (l : Launch) (D : hw_D) (G : Nat → Nat) (h0 : Nat) (sz : Nat) (la : Nat → Int32) (sz9 : Nat → Int32) (rx : Nat → Nat) (pn_x pc_x ks_x sc_x : Int32) (fq : Nat → Option Nat) (G0 : G h0 = 1) (Rx : hw_RX G rx) (gsc_x : 0 ≤ sc_x.toInt ∧ sc_x.toInt ≤ 6) (qq : ∀ j, j < 4 → ∃ b, fq j = some b ∧ G b = 6) : Met l yX11_racksThere wsX11_racksThere ({ frames := 1, cells := 0, slots := 0, locals := 20 } : Room) (hw_PC D G [.ref h0] sz (fun H => va_at D.1 vwCl (h0, .inr (10, hw_LX rx pn_x pc_x ks_x sc_x)) H ∧ va_at D.1 vwCl ((rx 13), .inl (D.2.1 7, 4, .inr (.inr (.inr (.inr fq))))) H ∧ hw_Racks D G fq la sz9 H)) (hw_QR (fun v => ∃ (r : Int32), v = .int r ∧ ((∀ j, j < 4 → la j = -1) → r.toInt = 0))) 0 0 (fun _ => False) := by
  refine hw_met (cc := cX11_racksThere) (maxL := 3) (ret := (some .int)) (plainFor_of_name (by decide)) rfl (Nat.le_of_ble_eq_true rfl) ?_
  intro p e s m args below meth c QQ ls hsz hx hb hml hr hts hown hlocks hnm hH hK hST hF hQ hl
  subst hsz
  have hS : va_S (hw_AW G [] s.heap.size) s.heap s.heap [] := va_S.rf
  obtain ⟨vx, vq, hRK⟩ := hF
  have hl : lv_has ls 3 [(0, .ref h0)] := hl
  have u_10 : ∀ w ∈ u_ws RX11 TX11 14, w.before args s = true := fun w hw => hts w ((by decide +kernel : ∀ w ∈ u_ws RX11 TX11 14, w ∈ wsX11_racksThere) w hw)
  have fg_57_10 : hw_FG s args m 57 10 13 := ⟨RX11, "WardWalkers", RX11, TX11, 14, u_10, hown, rfl, by decide, (hts (.fieldLink RX11 57 "WardWalkers" "racks" "[LWardWalkers$Rack;") (by decide +kernel)), (fun _ h9 => h9)⟩
  refine lv_iconst (v := 0) hx hb dX11_racksThere_0 (by decide) ?_
  refine lv_istore_n (lv' := [(1, .int 0), (0, .ref h0)]) hx hb dX11_racksThere_1 rfl hl (by decide) rfl (fun ls hl => ?_)
  refine lv_iconst (v := 0) hx hb dX11_racksThere_2 (by decide) ?_
  refine lv_istore_n (lv' := [(2, .int 0), (1, .int 0), (0, .ref h0)]) hx hb dX11_racksThere_3 rfl hl (by decide) rfl (fun ls hl => ?_)
  have L4 : ∀ (n4 : Nat) (y2_1 : Int32) (y1_2 : Int32) (hm : (4 - y2_1.toInt).toNat < n4) (g3 : 0 ≤ y2_1.toInt ∧ y2_1.toInt ≤ 4) (inv4_0 : (∀ j, j < 4 → la j = -1) → y1_2.toInt = 0) (ls : Array Slot) (hl : lv_has ls 3 [(2, .int y2_1), (1, .int y1_2), (0, .ref h0)]), W p l e ({ frames := 1, cells := 0, slots := 0, locals := 20 } : Room) s m args below meth c s.heap [] 0 0 QQ (F0 m 4 ls []) := by
    intro n4
    induction n4 with
    | zero => intro y2_1 y1_2 hm; exact absurd hm (Nat.not_lt_zero _)
    | succ n4 ih4 =>
      intro y2_1 y1_2 hm g3 inv4_0 ls hl
      refine lv_iload_n hx hb dX11_racksThere_4 rfl (lv_at hl 0 rfl) ?_
      refine lv_iconst (v := 4) hx hb dX11_racksThere_5 (by decide) ?_
      refine lv_icmp_ge (tgt := 30) hx hb dX11_racksThere_6 (by decide) (fun c5 => ?_) (fun c5 => ?_)
      · have b6 : 4 ≤ y2_1.toInt := hw_ile c5
        refine lv_iload_n hx hb dX11_racksThere_30 rfl (lv_at hl 1 rfl) ?_
        exact hw_iretR (v := y1_2) hx hb hr hlocks hQ rfl (⟨y1_2, rfl, (by first | rfl | trivial | assumption | omega | (intros; first | rfl | assumption | omega | (exfalso; omega)))⟩) dX11_racksThere_31
      · have b7 : y2_1.toInt < 4 := hw_inle c5
        refine lv_aload_n hx hb dX11_racksThere_9 rfl (lv_at hl 2 rfl) ?_
        refine hw_get hx hb fg_57_10 hK vx rfl dX11_racksThere_10 ?_
        refine lv_iload_n hx hb dX11_racksThere_13 rfl (lv_at hl 0 rfl) ?_
        have n8 : vp_in y2_1 4 := (hw_in (by omega) (by omega))
        refine hw_aald (t := 7) hx hb hK vq rfl n8 dX11_racksThere_14 ?_
        have l9 : y2_1.toNatClampNeg < 4 := Nat.not_le.mp fun q => n8 (Or.inr q)
        obtain ⟨b10, e11, k12⟩ := qq _ l9
        rw [e11]
        refine W.eq (g2 := F0 m 15 ls [.ref b10]) rfl ?_
        obtain ⟨a13, r14, e15, k16, R17, v18⟩ := hRK.2 _ l9
        have e19 : a13 = b10 := Option.some.inj (e15.symm.trans e11)
        rw [e19] at k16 v18
        have hla : (∀ j, j < 4 → la j = -1) → (la y2_1.toNatClampNeg).toInt = -1 := fun h9 => by rw [h9 _ l9]; rfl
        refine hw_cR (va_runV (As := []) (rest := []) ⟨hx, hb, hml, hown, hts⟩ (k_X7_isMissing l D G b10 _ r14 (la y2_1.toNatClampNeg) (sz9 y2_1.toNatClampNeg) k12 R17) (cwV 0 hts gX11_racksThere_X7_isMissing rfl rfl rfl (by decide +kernel) ⟨Nat.le_of_ble_eq_true rfl, Nat.le_of_ble_eq_true rfl⟩) (hw_pV (hw_rc (q := (RX7, TX7, 3)) hK v18 rfl) hH hK hST hS (by decide) (fun _ h => Or.inl h) v18) rfl rfl hl.1 rfl (lv_room (Nat.le_of_ble_eq_true rfl)) dX11_racksThere_15 ⟨Nat.le_of_ble_eq_true rfl, Nat.le_of_ble_eq_true rfl⟩) (fun v hp => ?_)
        rcases hp with ⟨rfl, q20⟩ | ⟨rfl, q21⟩
        · refine lv_if_ne (tgt := 24) hx hb dX11_racksThere_18 (by decide) (fun c22 => ?_) (fun c22 => ?_)
          · obtain ⟨x23, e24⟩ : ∃ y : Int32, y = y2_1 + 1 := ⟨_, rfl⟩
            refine lv_iinc (v := x23) (lv' := [(2, .int x23), (1, .int y1_2), (0, .ref h0)]) hx hb dX11_racksThere_24 hl (k := 0) rfl (by rw [e24]; rfl) (by decide) rfl (fun ls hl => ?_)
            have t25 : x23.toInt = y2_1.toInt + 1 := by rw [e24]; exact hw_add rfl rfl (by omega) (by omega)
            refine lv_goto (tgt := 4) hx hb dX11_racksThere_27 (by decide) ?_
            exact ih4 x23 y1_2 (by first | omega | omega) ⟨by first | decide | omega, by first | decide | omega⟩ (by intro h9; have h8 := hla h9; have h7 := inv4_0 h9; first | (exfalso; omega) | omega) _ (lv_sub hl [0, 1, 2] rfl)
          · exact absurd c22 (by decide)
        · refine lv_if_ne (tgt := 24) hx hb dX11_racksThere_18 (by decide) (fun c26 => ?_) (fun c26 => ?_)
          · exact absurd c26 (by decide)
          · obtain ⟨x27, e28⟩ : ∃ y : Int32, y = y1_2 + 1 := ⟨_, rfl⟩
            refine lv_iinc (v := x27) (lv' := [(1, .int x27), (2, .int y2_1), (0, .ref h0)]) hx hb dX11_racksThere_21 hl (k := 1) rfl (by rw [e28]; rfl) (by decide) rfl (fun ls hl => ?_)
            obtain ⟨x29, e30⟩ : ∃ y : Int32, y = y2_1 + 1 := ⟨_, rfl⟩
            refine lv_iinc (v := x29) (lv' := [(2, .int x29), (1, .int x27), (0, .ref h0)]) hx hb dX11_racksThere_24 hl (k := 1) rfl (by rw [e30]; rfl) (by decide) rfl (fun ls hl => ?_)
            have t31 : x29.toInt = y2_1.toInt + 1 := by rw [e30]; exact hw_add rfl rfl (by omega) (by omega)
            refine lv_goto (tgt := 4) hx hb dX11_racksThere_27 (by decide) ?_
            exact ih4 x29 x27 (by first | omega | omega) ⟨by first | decide | omega, by first | decide | omega⟩ (by intro h9; have h8 := hla h9; have h7 := inv4_0 h9; first | (exfalso; omega) | omega) _ (lv_sub hl [0, 1, 2] rfl)
  exact L4 _ 0 0 (Nat.lt_succ_self _) ⟨by first | decide | omega, by first | decide | omega⟩ (by intro _; rfl) _ (lv_sub hl [0, 1, 2] rfl)

set_option maxHeartbeats 4000000 in
set_option maxRecDepth 100000 in
theorem k_X11_rack (l : Launch) (D : hw_D) (G : Nat → Nat) (h0 : Nat) (p1 : Int32) (p2 : Int32) (p3 : Int32) (sz : Nat) (la : Nat → Int32) (sz9 : Nat → Int32) (rx : Nat → Nat) (pn_x pc_x ks_x sc_x : Int32) (fq : Nat → Option Nat) (G0 : G h0 = 1) (Rx : hw_RX G rx) (gsc_x : 0 ≤ sc_x.toInt ∧ sc_x.toInt ≤ 6) (qq : ∀ j, j < 4 → ∃ b, fq j = some b ∧ G b = 6) : Met l yX11_rack wsX11_rack ({ frames := 1, cells := 0, slots := 0, locals := 23 } : Room) (hw_PC D G [.ref h0, .int p1, .int p2, .int p3] sz (fun H => va_at D.1 vwCl (h0, .inr (10, hw_LX rx pn_x pc_x ks_x sc_x)) H ∧ va_at D.1 vwCl ((rx 13), .inl (D.2.1 7, 4, .inr (.inr (.inr (.inr fq))))) H ∧ hw_Racks D G fq la sz9 H)) (hw_QM (fun v H => (v = some (.int (-2)) ∧ hw_HT D G H ∧ hw_Racks D G fq la sz9 H ∧ va_at D.1 vwCl (h0, .inr (10, hw_LX rx pn_x pc_x ks_x sc_x)) H ∧ va_at D.1 vwCl ((rx 13), .inl (D.2.1 7, 4, .inr (.inr (.inr (.inr fq))))) H ∧ ((p1.toInt < 0 ∨ 3 < p1.toInt))) ∨ (v = some (.int (-3)) ∧ hw_HT D G H ∧ hw_Racks D G fq la sz9 H ∧ va_at D.1 vwCl (h0, .inr (10, hw_LX rx pn_x pc_x ks_x sc_x)) H ∧ va_at D.1 vwCl ((rx 13), .inl (D.2.1 7, 4, .inr (.inr (.inr (.inr fq))))) H ∧ ((0 ≤ p1.toInt ∧ p1.toInt ≤ 3)) ∧ (p2.toInt < 0 ∨ 4 < p2.toInt ∨ 24 < p3.toInt)) ∨ (v = some (.int (-14)) ∧ hw_HT D G H ∧ hw_Racks D G fq la sz9 H ∧ va_at D.1 vwCl (h0, .inr (10, hw_LX rx pn_x pc_x ks_x sc_x)) H ∧ va_at D.1 vwCl ((rx 13), .inl (D.2.1 7, 4, .inr (.inr (.inr (.inr fq))))) H ∧ ((0 ≤ p1.toInt ∧ p1.toInt ≤ 3)) ∧ (0 ≤ p2.toInt ∧ p2.toInt ≤ 4 ∧ p3.toInt < 0)) ∨ (∃ (r : Int32), v = some (.int r) ∧ hw_HT D G H ∧ hw_Racks D G fq (va_up la p1.toNatClampNeg p2) (va_up sz9 p1.toNatClampNeg p3) H ∧ va_at D.1 vwCl (h0, .inr (10, hw_LX rx pn_x pc_x ks_x sc_x)) H ∧ va_at D.1 vwCl ((rx 13), .inl (D.2.1 7, 4, .inr (.inr (.inr (.inr fq))))) H ∧ ((0 ≤ p1.toInt ∧ p1.toInt ≤ 3)) ∧ (0 ≤ p2.toInt ∧ p2.toInt ≤ 4 ∧ 0 ≤ p3.toInt ∧ p3.toInt ≤ 24) ∧ r = p3)) (hw_AW G [6, 19] sz)) 0 0 (hw_AW G [6, 19] sz) := by
  refine hw_met (cc := cX11_rack) (maxL := 5) (ret := (some .int)) (plainFor_of_name (by decide)) rfl (Nat.le_of_ble_eq_true rfl) ?_
  intro p e s m args below meth c QQ ls hsz hx hb hml hr hts hown hlocks hnm hH hK hST hF hQ hl
  subst hsz
  have hS : va_S (hw_AW G [6, 19] s.heap.size) s.heap s.heap [] := va_S.rf
  obtain ⟨vx, vq, hRK⟩ := hF
  have hl : lv_has ls 5 [(0, .ref h0), (1, .int p1), (2, .int p2), (3, .int p3)] := hl
  refine lv_aload_n hx hb dX11_rack_0 rfl (lv_at hl 0 rfl) ?_
  refine lv_iload_n hx hb dX11_rack_1 rfl (lv_at hl 1 rfl) ?_
  refine hw_cR (va_runV (As := [.int p1]) (rest := []) ⟨hx, hb, hml, hown, hts⟩ (k_X11_rackAt l D G h0 p1 _ rx pn_x pc_x ks_x sc_x fq G0 Rx ⟨by first | decide | omega, by first | decide | omega⟩ qq) (cwV 1 hts gX11_rack_X11_rackAt rfl rfl rfl (by decide +kernel) ⟨Nat.le_of_ble_eq_true rfl, Nat.le_of_ble_eq_true rfl⟩) (hw_pV (hw_rc (q := (RX11, TX11, 14)) hK vx rfl) hH hK hST hS (by decide) (fun _ h => Or.inl h) ⟨vx, vq⟩) rfl rfl hl.1 rfl (lv_room (Nat.le_of_ble_eq_true rfl)) dX11_rack_2 ⟨Nat.le_of_ble_eq_true rfl, Nat.le_of_ble_eq_true rfl⟩) (fun v hp => ?_)
  rcases hp with ⟨rfl, q1⟩ | ⟨b2, rfl, k3, q4, q5⟩
  · refine lv_astoreN (lv' := [(4, .null), (0, .ref h0), (1, .int p1), (2, .int p2), (3, .int p3)]) hx hb dX11_rack_5 hl (by decide) rfl (fun ls hl => ?_)
    refine lv_aloadN hx hb dX11_rack_7 (lv_at hl 0 rfl) ?_
    refine lv_ifnonnullN hx hb dX11_rack_9 ?_
    refine lv_bipush (v := (-2)) hx hb dX11_rack_12 (by decide) ?_
    exact hw_iretM (v := (-2)) hx hb hr hlocks hQ hS rfl (Or.inl ⟨rfl, hH, (by first | exact hRK | (subst_vars; exact hRK)), vx, vq, (by first | rfl | trivial | assumption | omega | (intros; first | rfl | assumption | omega | (exfalso; omega)))⟩) dX11_rack_14
  · obtain ⟨a6, r7, e8, k9, R10, v11⟩ := hRK.2 _ (hw_i4 q4)
    have e12 : a6 = b2 := Option.some.inj (e8.symm.trans q5)
    rw [e12] at k9 v11
    refine lv_astore (lv' := [(4, .ref b2), (0, .ref h0), (1, .int p1), (2, .int p2), (3, .int p3)]) hx hb dX11_rack_5 hl (by decide) rfl (fun ls hl => ?_)
    refine lv_aload hx hb dX11_rack_7 (lv_at hl 0 rfl) ?_
    refine lv_ifnonnull (tgt := 15) hx hb dX11_rack_9 (by decide) ?_
    refine lv_iload_n hx hb dX11_rack_15 rfl (lv_at hl 3 rfl) ?_
    refine hw_cR (va_runS (As := [.int p2]) (rest := []) ⟨hx, hb, hml, hown, hts⟩ (k_X11_isLane l D G p2 _) (va_cwS 1 hts gX11_rack_X11_isLane rfl rfl rfl (by decide +kernel) ⟨Nat.le_of_ble_eq_true rfl, Nat.le_of_ble_eq_true rfl⟩) (hw_pS hH hK hST hS (by decide) (fun _ h => Or.inl h) trivial) rfl rfl hl.1 rfl (lv_room (Nat.le_of_ble_eq_true rfl)) dX11_rack_16 ⟨Nat.le_of_ble_eq_true rfl, Nat.le_of_ble_eq_true rfl⟩) (fun v hp => ?_)
    rcases hp with ⟨rfl, q13⟩ | ⟨rfl, q14⟩
    · refine lv_if_eq (tgt := 28) hx hb dX11_rack_19 (by decide) (fun c15 => ?_) (fun c15 => ?_)
      · exact absurd c15 (by decide)
      · refine lv_iload_n hx hb dX11_rack_22 rfl (lv_at hl 4 rfl) ?_
        refine lv_bipush (v := 24) hx hb dX11_rack_23 (by decide) ?_
        refine lv_icmp_le (tgt := 31) hx hb dX11_rack_25 (by decide) (fun c16 => ?_) (fun c16 => ?_)
        · have b17 : p3.toInt ≤ 24 := hw_ile c16
          refine lv_iload_n hx hb dX11_rack_31 rfl (lv_at hl 4 rfl) ?_
          refine lv_if_ge (tgt := 38) hx hb dX11_rack_32 (by decide) (fun c18 => ?_) (fun c18 => ?_)
          · have b19 : 0 ≤ p3.toInt := hw_ile c18
            refine lv_aload hx hb dX11_rack_38 (lv_at hl 0 rfl) ?_
            refine lv_iload_n hx hb dX11_rack_40 rfl (lv_at hl 3 rfl) ?_
            refine lv_iload_n hx hb dX11_rack_41 rfl (lv_at hl 4 rfl) ?_
            have hs9 := hw_G6_sub k9 R10
            have hH9 := hw_G6_HT hH k9 R10 v11
            have R9 := hw_G6_R k9 R10
            refine hw_cM0 (va_runV (As := [.int p2, .int p3]) (rest := []) ⟨hx, hb, hml, hown, hts⟩ (k_X7_begin l D (hw_G6 b2 (r7 0)) b2 p2 p3 _ r7 (la p1.toNatClampNeg) (sz9 p1.toNatClampNeg) (hw_G6_a b2 (r7 0)) R9) (cwV 2 hts gX11_rack_X7_begin rfl rfl rfl (by decide +kernel) ⟨Nat.le_of_ble_eq_true rfl, Nat.le_of_ble_eq_true rfl⟩) (hw_pV (hw_rc (q := (RX7, TX7, 3)) hK v11 rfl) hH9 hK hST hS (by decide) (fun q9 h9 => Or.inl (by rw [hs9 q9 h9]; exact h9)) v11) rfl rfl hl.1 rfl (lv_room (Nat.le_of_ble_eq_true rfl)) dX11_rack_42 ⟨Nat.le_of_ble_eq_true rfl, Nat.le_of_ble_eq_true rfl⟩) hS (hw_AWsub2 (by decide) (by decide) hs9 hS.1) (fun v H locs hp hz hk hS => ?_)
            obtain ⟨x20, x21, rfl, hH8, v22, q23, q24⟩ := hp
            have hH := hw_HT.merge hH hH8 hs9 hk (by decide)
            have vx := va_at.kept vx (hk _ (hw_lt vx) (hw_AWn2 hs9 (by decide) G0 (by decide) (hw_lt vx)))
            have vq := va_at.kept vq (hk _ (hw_lt vq) (hw_AWn2 hs9 (by decide) (hw_RX_13 Rx) (by decide) (hw_lt vq)))
            have hRK := hw_Racks.setG6 hRK (hw_i4 q4) q5 k9 R10 v22 hk
            refine lv_iload_n hx hb dX11_rack_45 rfl (lv_at hl 4 rfl) ?_
            exact hw_iretM (v := p3) hx hb hr hlocks hQ hS rfl (Or.inr (Or.inr (Or.inr (⟨p3, rfl, hH, (by first | exact hRK | (subst_vars; exact hRK)), vx, vq, (by first | rfl | trivial | assumption | omega | (intros; first | rfl | assumption | omega | (exfalso; omega))), (by first | rfl | trivial | assumption | omega | (intros; first | rfl | assumption | omega | (exfalso; omega))), (by first | rfl | trivial | assumption | omega | (intros; first | rfl | assumption | omega | (exfalso; omega)))⟩)))) dX11_rack_46
          · have b25 : p3.toInt < 0 := hw_inle c18
            refine lv_bipush (v := (-14)) hx hb dX11_rack_35 (by decide) ?_
            exact hw_iretM (v := (-14)) hx hb hr hlocks hQ hS rfl (Or.inr (Or.inr (Or.inl ⟨rfl, hH, (by first | exact hRK | (subst_vars; exact hRK)), vx, vq, (by first | rfl | trivial | assumption | omega | (intros; first | rfl | assumption | omega | (exfalso; omega))), (by first | rfl | trivial | assumption | omega | (intros; first | rfl | assumption | omega | (exfalso; omega)))⟩))) dX11_rack_37
        · have b26 : 24 < p3.toInt := hw_inle c16
          refine lv_bipush (v := (-3)) hx hb dX11_rack_28 (by decide) ?_
          exact hw_iretM (v := (-3)) hx hb hr hlocks hQ hS rfl (Or.inr (Or.inl ⟨rfl, hH, (by first | exact hRK | (subst_vars; exact hRK)), vx, vq, (by first | rfl | trivial | assumption | omega | (intros; first | rfl | assumption | omega | (exfalso; omega))), (by first | rfl | trivial | assumption | omega | (intros; first | rfl | assumption | omega | (exfalso; omega)))⟩)) dX11_rack_30
    · refine lv_if_eq (tgt := 28) hx hb dX11_rack_19 (by decide) (fun c27 => ?_) (fun c27 => ?_)
      · refine lv_bipush (v := (-3)) hx hb dX11_rack_28 (by decide) ?_
        exact hw_iretM (v := (-3)) hx hb hr hlocks hQ hS rfl (Or.inr (Or.inl ⟨rfl, hH, (by first | exact hRK | (subst_vars; exact hRK)), vx, vq, (by first | rfl | trivial | assumption | omega | (intros; first | rfl | assumption | omega | (exfalso; omega))), (by first | rfl | trivial | assumption | omega | (intros; first | rfl | assumption | omega | (exfalso; omega)))⟩)) dX11_rack_30
      · exact absurd c27 (by decide)

set_option maxHeartbeats 4000000 in
set_option maxRecDepth 100000 in
theorem k_X11_hang (l : Launch) (D : hw_D) (G : Nat → Nat) (h0 : Nat) (p1 : Int32) (p2 : Int32) (p3 : Int32) (p4 : Int64) (sz : Nat) (la : Nat → Int32) (sz9 : Nat → Int32) (rx : Nat → Nat) (pn_x pc_x ks_x sc_x : Int32) (fq : Nat → Option Nat) (G0 : G h0 = 1) (Rx : hw_RX G rx) (gsc_x : 0 ≤ sc_x.toInt ∧ sc_x.toInt ≤ 6) (qq : ∀ j, j < 4 → ∃ b, fq j = some b ∧ G b = 6) : Met l yX11_hang wsX11_hang ({ frames := 2, cells := 0, slots := 0, locals := 45 } : Room) (hw_PC D G [.ref h0, .int p1, .int p2, .int p3, .long p4] sz (fun H => va_at D.1 vwCl (h0, .inr (10, hw_LX rx pn_x pc_x ks_x sc_x)) H ∧ va_at D.1 vwCl ((rx 13), .inl (D.2.1 7, 4, .inr (.inr (.inr (.inr fq))))) H ∧ hw_Racks D G fq la sz9 H)) (hw_QM (fun v H => (v = some (.int (-2)) ∧ hw_HT D G H ∧ hw_Racks D G fq la sz9 H ∧ va_at D.1 vwCl (h0, .inr (10, hw_LX rx pn_x pc_x ks_x sc_x)) H ∧ va_at D.1 vwCl ((rx 13), .inl (D.2.1 7, 4, .inr (.inr (.inr (.inr fq))))) H ∧ ((p1.toInt < 0 ∨ 3 < p1.toInt))) ∨ (v = some (.int (-3)) ∧ hw_HT D G H ∧ hw_Racks D G fq la sz9 H ∧ va_at D.1 vwCl (h0, .inr (10, hw_LX rx pn_x pc_x ks_x sc_x)) H ∧ va_at D.1 vwCl ((rx 13), .inl (D.2.1 7, 4, .inr (.inr (.inr (.inr fq))))) H ∧ ((0 ≤ p1.toInt ∧ p1.toInt ≤ 3)) ∧ (p2.toInt < 0 ∨ 4 < p2.toInt)) ∨ (v = some (.int (-11)) ∧ hw_HT D G H ∧ hw_Racks D G fq la sz9 H ∧ va_at D.1 vwCl (h0, .inr (10, hw_LX rx pn_x pc_x ks_x sc_x)) H ∧ va_at D.1 vwCl ((rx 13), .inl (D.2.1 7, 4, .inr (.inr (.inr (.inr fq))))) H ∧ ((0 ≤ p1.toInt ∧ p1.toInt ≤ 3)) ∧ (0 ≤ p2.toInt ∧ p2.toInt ≤ 4) ∧ (la p1.toNatClampNeg).toInt = -1) ∨ (v = some (.int (-12)) ∧ hw_HT D G H ∧ hw_Racks D G fq la sz9 H ∧ va_at D.1 vwCl (h0, .inr (10, hw_LX rx pn_x pc_x ks_x sc_x)) H ∧ va_at D.1 vwCl ((rx 13), .inl (D.2.1 7, 4, .inr (.inr (.inr (.inr fq))))) H ∧ ((0 ≤ p1.toInt ∧ p1.toInt ≤ 3)) ∧ (0 ≤ p2.toInt ∧ p2.toInt ≤ 4) ∧ (la p1.toNatClampNeg).toInt ≠ -1 ∧ (la p1.toNatClampNeg).toInt ≠ p2.toInt) ∨ (v = some (.int (-13)) ∧ hw_HT D G H ∧ hw_Racks D G fq la sz9 H ∧ va_at D.1 vwCl (h0, .inr (10, hw_LX rx pn_x pc_x ks_x sc_x)) H ∧ va_at D.1 vwCl ((rx 13), .inl (D.2.1 7, 4, .inr (.inr (.inr (.inr fq))))) H ∧ ((0 ≤ p1.toInt ∧ p1.toInt ≤ 3)) ∧ (0 ≤ p2.toInt ∧ p2.toInt ≤ 4) ∧ (la p1.toNatClampNeg).toInt ≠ -1 ∧ (la p1.toNatClampNeg).toInt = p2.toInt ∧ (p3.toInt < 0 ∨ (sz9 p1.toNatClampNeg).toInt < p3.toInt + 1)) ∨ (v = some (.int 1) ∧ hw_HT D G H ∧ hw_Racks D G fq la sz9 H ∧ va_at D.1 vwCl (h0, .inr (10, hw_LX rx pn_x pc_x ks_x sc_x)) H ∧ va_at D.1 vwCl ((rx 13), .inl (D.2.1 7, 4, .inr (.inr (.inr (.inr fq))))) H ∧ ((0 ≤ p1.toInt ∧ p1.toInt ≤ 3)) ∧ (0 ≤ p2.toInt ∧ p2.toInt ≤ 4) ∧ (la p1.toNatClampNeg).toInt ≠ -1 ∧ (la p1.toNatClampNeg).toInt = p2.toInt ∧ (0 ≤ p3.toInt ∧ p3.toInt + 1 ≤ (sz9 p1.toNatClampNeg).toInt))) (hw_AW G [19] sz)) 0 0 (hw_AW G [19] sz) := by
  refine hw_met (cc := cX11_hang) (maxL := 7) (ret := (some .int)) (plainFor_of_name (by decide)) rfl (Nat.le_of_ble_eq_true rfl) ?_
  intro p e s m args below meth c QQ ls hsz hx hb hml hr hts hown hlocks hnm hH hK hST hF hQ hl
  subst hsz
  have hS : va_S (hw_AW G [19] s.heap.size) s.heap s.heap [] := va_S.rf
  obtain ⟨vx, vq, hRK⟩ := hF
  have hl : lv_has ls 7 [(0, .ref h0), (1, .int p1), (2, .int p2), (3, .int p3), (4, .long p4)] := hl
  have u_6 : ∀ w ∈ u_ws RX7 TX7 3, w.before args s = true := fun w hw => hts w ((by decide +kernel : ∀ w ∈ u_ws RX7 TX7 3, w ∈ wsX11_hang) w hw)
  have fg_313_6 : hw_FG s args m 313 6 1 := ⟨RX11, "WardWalkers$Rack", RX7, TX7, 3, u_6, hown, rfl, by decide, (hts (.fieldLink RX11 313 "WardWalkers$Rack" "lane" "I") (by decide +kernel)), (fun _ h9 => h9)⟩
  refine lv_aload_n hx hb dX11_hang_0 rfl (lv_at hl 0 rfl) ?_
  refine lv_iload_n hx hb dX11_hang_1 rfl (lv_at hl 1 rfl) ?_
  refine hw_cR (va_runV (As := [.int p1]) (rest := []) ⟨hx, hb, hml, hown, hts⟩ (k_X11_rackAt l D G h0 p1 _ rx pn_x pc_x ks_x sc_x fq G0 Rx ⟨by first | decide | omega, by first | decide | omega⟩ qq) (cwV 1 hts gX11_hang_X11_rackAt rfl rfl rfl (by decide +kernel) ⟨Nat.le_of_ble_eq_true rfl, Nat.le_of_ble_eq_true rfl⟩) (hw_pV (hw_rc (q := (RX11, TX11, 14)) hK vx rfl) hH hK hST hS (by decide) (fun _ h => Or.inl h) ⟨vx, vq⟩) rfl rfl hl.1 rfl (lv_room (Nat.le_of_ble_eq_true rfl)) dX11_hang_2 ⟨Nat.le_of_ble_eq_true rfl, Nat.le_of_ble_eq_true rfl⟩) (fun v hp => ?_)
  rcases hp with ⟨rfl, q1⟩ | ⟨b2, rfl, k3, q4, q5⟩
  · refine lv_astoreN (lv' := [(6, .null), (0, .ref h0), (1, .int p1), (2, .int p2), (3, .int p3), (4, .long p4)]) hx hb dX11_hang_5 hl (by decide) rfl (fun ls hl => ?_)
    refine lv_aloadN hx hb dX11_hang_7 (lv_at hl 0 rfl) ?_
    refine lv_ifnonnullN hx hb dX11_hang_9 ?_
    refine lv_bipush (v := (-2)) hx hb dX11_hang_12 (by decide) ?_
    exact hw_iretM (v := (-2)) hx hb hr hlocks hQ hS rfl (Or.inl ⟨rfl, hH, (by first | exact hRK | (subst_vars; exact hRK)), vx, vq, (by first | rfl | trivial | assumption | omega | (intros; first | rfl | assumption | omega | (exfalso; omega)))⟩) dX11_hang_14
  · obtain ⟨a6, r7, e8, k9, R10, v11⟩ := hRK.2 _ (hw_i4 q4)
    have e12 : a6 = b2 := Option.some.inj (e8.symm.trans q5)
    rw [e12] at k9 v11
    refine lv_astore (lv' := [(6, .ref b2), (0, .ref h0), (1, .int p1), (2, .int p2), (3, .int p3), (4, .long p4)]) hx hb dX11_hang_5 hl (by decide) rfl (fun ls hl => ?_)
    refine lv_aload hx hb dX11_hang_7 (lv_at hl 0 rfl) ?_
    refine lv_ifnonnull (tgt := 15) hx hb dX11_hang_9 (by decide) ?_
    refine lv_iload_n hx hb dX11_hang_15 rfl (lv_at hl 3 rfl) ?_
    refine hw_cR (va_runS (As := [.int p2]) (rest := []) ⟨hx, hb, hml, hown, hts⟩ (k_X11_isLane l D G p2 _) (va_cwS 1 hts gX11_hang_X11_isLane rfl rfl rfl (by decide +kernel) ⟨Nat.le_of_ble_eq_true rfl, Nat.le_of_ble_eq_true rfl⟩) (hw_pS hH hK hST hS (by decide) (fun _ h => Or.inl h) trivial) rfl rfl hl.1 rfl (lv_room (Nat.le_of_ble_eq_true rfl)) dX11_hang_16 ⟨Nat.le_of_ble_eq_true rfl, Nat.le_of_ble_eq_true rfl⟩) (fun v hp => ?_)
    rcases hp with ⟨rfl, q13⟩ | ⟨rfl, q14⟩
    · refine lv_if_ne (tgt := 25) hx hb dX11_hang_19 (by decide) (fun c15 => ?_) (fun c15 => ?_)
      · refine lv_aload hx hb dX11_hang_25 (lv_at hl 0 rfl) ?_
        refine hw_cR (va_runV (As := []) (rest := []) ⟨hx, hb, hml, hown, hts⟩ (k_X7_isMissing l D G b2 _ r7 (la p1.toNatClampNeg) (sz9 p1.toNatClampNeg) k3 R10) (cwV 0 hts gX11_hang_X7_isMissing rfl rfl rfl (by decide +kernel) ⟨Nat.le_of_ble_eq_true rfl, Nat.le_of_ble_eq_true rfl⟩) (hw_pV (hw_rc (q := (RX7, TX7, 3)) hK v11 rfl) hH hK hST hS (by decide) (fun _ h => Or.inl h) v11) rfl rfl hl.1 rfl (lv_room (Nat.le_of_ble_eq_true rfl)) dX11_hang_27 ⟨Nat.le_of_ble_eq_true rfl, Nat.le_of_ble_eq_true rfl⟩) (fun v hp => ?_)
        rcases hp with ⟨rfl, q16⟩ | ⟨rfl, q17⟩
        · refine lv_if_eq (tgt := 36) hx hb dX11_hang_30 (by decide) (fun c18 => ?_) (fun c18 => ?_)
          · exact absurd c18 (by decide)
          · refine lv_bipush (v := (-11)) hx hb dX11_hang_33 (by decide) ?_
            exact hw_iretM (v := (-11)) hx hb hr hlocks hQ hS rfl (Or.inr (Or.inr (Or.inl ⟨rfl, hH, (by first | exact hRK | (subst_vars; exact hRK)), vx, vq, (by first | rfl | trivial | assumption | omega | (intros; first | rfl | assumption | omega | (exfalso; omega))), (by first | rfl | trivial | assumption | omega | (intros; first | rfl | assumption | omega | (exfalso; omega))), (by first | rfl | trivial | assumption | omega | (intros; first | rfl | assumption | omega | (exfalso; omega)))⟩))) dX11_hang_35
        · refine lv_if_eq (tgt := 36) hx hb dX11_hang_30 (by decide) (fun c19 => ?_) (fun c19 => ?_)
          · refine lv_aload hx hb dX11_hang_36 (lv_at hl 0 rfl) ?_
            refine hw_get hx hb fg_313_6 hK v11 rfl dX11_hang_38 ?_
            refine lv_iload_n hx hb dX11_hang_41 rfl (lv_at hl 3 rfl) ?_
            refine lv_icmp_eq (tgt := 48) hx hb dX11_hang_42 (by decide) (fun c20 => ?_) (fun c20 => ?_)
            · have b21 : (la p1.toNatClampNeg).toInt = p2.toInt := hw_ieq c20
              refine lv_aload hx hb dX11_hang_48 (lv_at hl 0 rfl) ?_
              refine lv_iload_n hx hb dX11_hang_50 rfl (lv_at hl 4 rfl) ?_
              refine lv_iconst (v := 1) hx hb dX11_hang_51 (by decide) ?_
              refine hw_cR (va_runV (As := [.int p3, .int 1]) (rest := []) ⟨hx, hb, hml, hown, hts⟩ (k_X7_spans l D G b2 p3 1 _ r7 (la p1.toNatClampNeg) (sz9 p1.toNatClampNeg) k3 R10) (cwV 2 hts gX11_hang_X7_spans rfl rfl rfl (by decide +kernel) ⟨Nat.le_of_ble_eq_true rfl, Nat.le_of_ble_eq_true rfl⟩) (hw_pV (hw_rc (q := (RX7, TX7, 3)) hK v11 rfl) hH hK hST hS (by decide) (fun _ h => Or.inl h) v11) rfl rfl hl.1 rfl (lv_room (Nat.le_of_ble_eq_true rfl)) dX11_hang_52 ⟨Nat.le_of_ble_eq_true rfl, Nat.le_of_ble_eq_true rfl⟩) (fun v hp => ?_)
              have l22 : (1 : Int32).toInt = 1 := rfl
              rcases hp with ⟨rfl, q23⟩ | ⟨rfl, q24⟩
              · refine lv_if_ne (tgt := 61) hx hb dX11_hang_55 (by decide) (fun c25 => ?_) (fun c25 => ?_)
                · refine lv_aload hx hb dX11_hang_61 (lv_at hl 0 rfl) ?_
                  refine lv_iload_n hx hb dX11_hang_63 rfl (lv_at hl 4 rfl) ?_
                  refine lv_lload hx hb dX11_hang_64 (lv_at hl 5 rfl) ?_
                  refine hw_cM0 (va_runV (As := [.int p3, .long p4]) (rest := []) ⟨hx, hb, hml, hown, hts⟩ (k_X7_put l D G b2 p3 p4 _ k3) (cwV 2 hts gX11_hang_X7_put rfl rfl rfl (by decide +kernel) ⟨Nat.le_of_ble_eq_true rfl, Nat.le_of_ble_eq_true rfl⟩) (hw_pV (hw_rc (q := (RX7, TX7, 3)) hK v11 rfl) hH hK hST hS (by decide) (fun _ h => Or.inl h) trivial) rfl rfl hl.1 rfl (lv_room (Nat.le_of_ble_eq_true rfl)) dX11_hang_66 ⟨Nat.le_of_ble_eq_true rfl, Nat.le_of_ble_eq_true rfl⟩) hS (hw_AWsub (by decide) (fun _ _ => rfl) hS.1) (fun v H locs hp hz hk hS => ?_)
                  obtain ⟨rfl, hH⟩ := hp
                  have hRK := hw_Racks.kept hRK (fun q9 h9 l9 => hk q9 l9 (hw_AWn h9 (by decide) l9))
                  have vx := va_at.kept vx (hk _ (hw_lt vx) (hw_AWn G0 (by decide) (hw_lt vx)))
                  have vq := va_at.kept vq (hk _ (hw_lt vq) (hw_AWn (hw_RX_13 Rx) (by decide) (hw_lt vq)))
                  have v11 := va_at.kept v11 (hk _ (hw_lt v11) (hw_AWn k9 (by decide) (hw_lt v11)))
                  refine lv_iconst (v := 1) hx hb dX11_hang_69 (by decide) ?_
                  exact hw_iretM (v := 1) hx hb hr hlocks hQ hS rfl (Or.inr (Or.inr (Or.inr (Or.inr (Or.inr (⟨rfl, hH, (by first | exact hRK | (subst_vars; exact hRK)), vx, vq, (by first | rfl | trivial | assumption | omega | (intros; first | rfl | assumption | omega | (exfalso; omega))), (by first | rfl | trivial | assumption | omega | (intros; first | rfl | assumption | omega | (exfalso; omega))), (by first | rfl | trivial | assumption | omega | (intros; first | rfl | assumption | omega | (exfalso; omega))), (by first | rfl | trivial | assumption | omega | (intros; first | rfl | assumption | omega | (exfalso; omega))), (by first | rfl | trivial | assumption | omega | (intros; first | rfl | assumption | omega | (exfalso; omega)))⟩)))))) dX11_hang_70
                · exact absurd c25 (by decide)
              · refine lv_if_ne (tgt := 61) hx hb dX11_hang_55 (by decide) (fun c26 => ?_) (fun c26 => ?_)
                · exact absurd c26 (by decide)
                · refine lv_bipush (v := (-13)) hx hb dX11_hang_58 (by decide) ?_
                  exact hw_iretM (v := (-13)) hx hb hr hlocks hQ hS rfl (Or.inr (Or.inr (Or.inr (Or.inr (Or.inl ⟨rfl, hH, (by first | exact hRK | (subst_vars; exact hRK)), vx, vq, (by first | rfl | trivial | assumption | omega | (intros; first | rfl | assumption | omega | (exfalso; omega))), (by first | rfl | trivial | assumption | omega | (intros; first | rfl | assumption | omega | (exfalso; omega))), (by first | rfl | trivial | assumption | omega | (intros; first | rfl | assumption | omega | (exfalso; omega))), (by first | rfl | trivial | assumption | omega | (intros; first | rfl | assumption | omega | (exfalso; omega))), (by first | rfl | trivial | assumption | omega | (intros; first | rfl | assumption | omega | (exfalso; omega)))⟩))))) dX11_hang_60
            · have b27 : (la p1.toNatClampNeg).toInt ≠ p2.toInt := hw_ine c20
              refine lv_bipush (v := (-12)) hx hb dX11_hang_45 (by decide) ?_
              exact hw_iretM (v := (-12)) hx hb hr hlocks hQ hS rfl (Or.inr (Or.inr (Or.inr (Or.inl ⟨rfl, hH, (by first | exact hRK | (subst_vars; exact hRK)), vx, vq, (by first | rfl | trivial | assumption | omega | (intros; first | rfl | assumption | omega | (exfalso; omega))), (by first | rfl | trivial | assumption | omega | (intros; first | rfl | assumption | omega | (exfalso; omega))), (by first | rfl | trivial | assumption | omega | (intros; first | rfl | assumption | omega | (exfalso; omega))), (by first | rfl | trivial | assumption | omega | (intros; first | rfl | assumption | omega | (exfalso; omega)))⟩)))) dX11_hang_47
          · exact absurd c19 (by decide)
      · exact absurd c15 (by decide)
    · refine lv_if_ne (tgt := 25) hx hb dX11_hang_19 (by decide) (fun c28 => ?_) (fun c28 => ?_)
      · exact absurd c28 (by decide)
      · refine lv_bipush (v := (-3)) hx hb dX11_hang_22 (by decide) ?_
        exact hw_iretM (v := (-3)) hx hb hr hlocks hQ hS rfl (Or.inr (Or.inl ⟨rfl, hH, (by first | exact hRK | (subst_vars; exact hRK)), vx, vq, (by first | rfl | trivial | assumption | omega | (intros; first | rfl | assumption | omega | (exfalso; omega))), (by first | rfl | trivial | assumption | omega | (intros; first | rfl | assumption | omega | (exfalso; omega)))⟩)) dX11_hang_24

set_option maxHeartbeats 4000000 in
set_option maxRecDepth 100000 in
theorem k_X11_look (l : Launch) (D : hw_D) (G : Nat → Nat) (h0 : Nat) (p1 : Int32) (p2 : Int32) (sz : Nat) (la : Nat → Int32) (sz9 : Nat → Int32) (rx : Nat → Nat) (pn_x pc_x ks_x sc_x : Int32) (fq : Nat → Option Nat) (G0 : G h0 = 1) (Rx : hw_RX G rx) (gsc_x : 0 ≤ sc_x.toInt ∧ sc_x.toInt ≤ 6) (qq : ∀ j, j < 4 → ∃ b, fq j = some b ∧ G b = 6) : Met l yX11_look wsX11_look ({ frames := 1, cells := 0, slots := 0, locals := 22 } : Room) (hw_PC D G [.ref h0, .int p1, .int p2] sz (fun H => va_at D.1 vwCl (h0, .inr (10, hw_LX rx pn_x pc_x ks_x sc_x)) H ∧ va_at D.1 vwCl ((rx 13), .inl (D.2.1 7, 4, .inr (.inr (.inr (.inr fq))))) H ∧ hw_Racks D G fq la sz9 H)) (hw_QR (fun v => (v = .long (-2) ∧ ((p1.toInt < 0 ∨ 3 < p1.toInt))) ∨ (v = .long (-11) ∧ ((0 ≤ p1.toInt ∧ p1.toInt ≤ 3)) ∧ (la p1.toNatClampNeg).toInt = -1) ∨ (v = .long (-13) ∧ ((0 ≤ p1.toInt ∧ p1.toInt ≤ 3)) ∧ (la p1.toNatClampNeg).toInt ≠ -1 ∧ (p2.toInt < 0 ∨ (sz9 p1.toNatClampNeg).toInt < p2.toInt + 1)) ∨ (∃ (r : Int64), v = .long r ∧ ((0 ≤ p1.toInt ∧ p1.toInt ≤ 3)) ∧ (la p1.toNatClampNeg).toInt ≠ -1))) 0 0 (fun _ => False) := by
  refine hw_met (cc := cX11_look) (maxL := 6) (ret := (some .long)) (plainFor_of_name (by decide)) rfl (Nat.le_of_ble_eq_true rfl) ?_
  intro p e s m args below meth c QQ ls hsz hx hb hml hr hts hown hlocks hnm hH hK hST hF hQ hl
  subst hsz
  have hS : va_S (hw_AW G [] s.heap.size) s.heap s.heap [] := va_S.rf
  obtain ⟨vx, vq, hRK⟩ := hF
  have hl : lv_has ls 6 [(0, .ref h0), (1, .int p1), (2, .int p2)] := hl
  refine lv_aload_n hx hb dX11_look_0 rfl (lv_at hl 0 rfl) ?_
  refine lv_iload_n hx hb dX11_look_1 rfl (lv_at hl 1 rfl) ?_
  refine hw_cR (va_runV (As := [.int p1]) (rest := []) ⟨hx, hb, hml, hown, hts⟩ (k_X11_rackAt l D G h0 p1 _ rx pn_x pc_x ks_x sc_x fq G0 Rx ⟨by first | decide | omega, by first | decide | omega⟩ qq) (cwV 1 hts gX11_look_X11_rackAt rfl rfl rfl (by decide +kernel) ⟨Nat.le_of_ble_eq_true rfl, Nat.le_of_ble_eq_true rfl⟩) (hw_pV (hw_rc (q := (RX11, TX11, 14)) hK vx rfl) hH hK hST hS (by decide) (fun _ h => Or.inl h) ⟨vx, vq⟩) rfl rfl hl.1 rfl (lv_room (Nat.le_of_ble_eq_true rfl)) dX11_look_2 ⟨Nat.le_of_ble_eq_true rfl, Nat.le_of_ble_eq_true rfl⟩) (fun v hp => ?_)
  rcases hp with ⟨rfl, q1⟩ | ⟨b2, rfl, k3, q4, q5⟩
  · refine lv_astore_nN (lv' := [(3, .null), (0, .ref h0), (1, .int p1), (2, .int p2)]) hx hb dX11_look_5 rfl hl (by decide) rfl (fun ls hl => ?_)
    refine lv_aload_nN hx hb dX11_look_6 rfl (lv_at hl 0 rfl) ?_
    refine lv_ifnonnullN hx hb dX11_look_7 ?_
    refine lv_ldc2 (v := (-2)) hx hb hown (hts (.constantLong RX11 323 (-2)) (by decide +kernel)) dX11_look_10 ?_
    exact hw_lretR (v := (-2)) hx hb hr hlocks hQ (Or.inl ⟨rfl, (by first | rfl | trivial | assumption | omega | (intros; first | rfl | assumption | omega | (exfalso; omega)))⟩) dX11_look_13
  · obtain ⟨a6, r7, e8, k9, R10, v11⟩ := hRK.2 _ (hw_i4 q4)
    have e12 : a6 = b2 := Option.some.inj (e8.symm.trans q5)
    rw [e12] at k9 v11
    refine lv_astore_n (lv' := [(3, .ref b2), (0, .ref h0), (1, .int p1), (2, .int p2)]) hx hb dX11_look_5 rfl hl (by decide) rfl (fun ls hl => ?_)
    refine lv_aload_n hx hb dX11_look_6 rfl (lv_at hl 0 rfl) ?_
    refine lv_ifnonnull (tgt := 14) hx hb dX11_look_7 (by decide) ?_
    refine lv_aload_n hx hb dX11_look_14 rfl (lv_at hl 0 rfl) ?_
    refine hw_cR (va_runV (As := []) (rest := []) ⟨hx, hb, hml, hown, hts⟩ (k_X7_isMissing l D G b2 _ r7 (la p1.toNatClampNeg) (sz9 p1.toNatClampNeg) k3 R10) (cwV 0 hts gX11_look_X7_isMissing rfl rfl rfl (by decide +kernel) ⟨Nat.le_of_ble_eq_true rfl, Nat.le_of_ble_eq_true rfl⟩) (hw_pV (hw_rc (q := (RX7, TX7, 3)) hK v11 rfl) hH hK hST hS (by decide) (fun _ h => Or.inl h) v11) rfl rfl hl.1 rfl (lv_room (Nat.le_of_ble_eq_true rfl)) dX11_look_15 ⟨Nat.le_of_ble_eq_true rfl, Nat.le_of_ble_eq_true rfl⟩) (fun v hp => ?_)
    rcases hp with ⟨rfl, q13⟩ | ⟨rfl, q14⟩
    · refine lv_if_eq (tgt := 25) hx hb dX11_look_18 (by decide) (fun c15 => ?_) (fun c15 => ?_)
      · exact absurd c15 (by decide)
      · refine lv_ldc2 (v := (-11)) hx hb hown (hts (.constantLong RX11 325 (-11)) (by decide +kernel)) dX11_look_21 ?_
        exact hw_lretR (v := (-11)) hx hb hr hlocks hQ (Or.inr (Or.inl ⟨rfl, (by first | rfl | trivial | assumption | omega | (intros; first | rfl | assumption | omega | (exfalso; omega))), (by first | rfl | trivial | assumption | omega | (intros; first | rfl | assumption | omega | (exfalso; omega)))⟩)) dX11_look_24
    · refine lv_if_eq (tgt := 25) hx hb dX11_look_18 (by decide) (fun c16 => ?_) (fun c16 => ?_)
      · refine lv_aload_n hx hb dX11_look_25 rfl (lv_at hl 0 rfl) ?_
        refine lv_iload_n hx hb dX11_look_26 rfl (lv_at hl 3 rfl) ?_
        refine lv_iconst (v := 1) hx hb dX11_look_27 (by decide) ?_
        refine hw_cR (va_runV (As := [.int p2, .int 1]) (rest := []) ⟨hx, hb, hml, hown, hts⟩ (k_X7_spans l D G b2 p2 1 _ r7 (la p1.toNatClampNeg) (sz9 p1.toNatClampNeg) k3 R10) (cwV 2 hts gX11_look_X7_spans rfl rfl rfl (by decide +kernel) ⟨Nat.le_of_ble_eq_true rfl, Nat.le_of_ble_eq_true rfl⟩) (hw_pV (hw_rc (q := (RX7, TX7, 3)) hK v11 rfl) hH hK hST hS (by decide) (fun _ h => Or.inl h) v11) rfl rfl hl.1 rfl (lv_room (Nat.le_of_ble_eq_true rfl)) dX11_look_28 ⟨Nat.le_of_ble_eq_true rfl, Nat.le_of_ble_eq_true rfl⟩) (fun v hp => ?_)
        have l17 : (1 : Int32).toInt = 1 := rfl
        rcases hp with ⟨rfl, q18⟩ | ⟨rfl, q19⟩
        · refine lv_if_ne (tgt := 38) hx hb dX11_look_31 (by decide) (fun c20 => ?_) (fun c20 => ?_)
          · refine lv_aload_n hx hb dX11_look_38 rfl (lv_at hl 0 rfl) ?_
            refine lv_iload_n hx hb dX11_look_39 rfl (lv_at hl 3 rfl) ?_
            refine hw_cR (va_runV (As := [.int p2]) (rest := []) ⟨hx, hb, hml, hown, hts⟩ (k_X7_thingAt l D G b2 p2 _ k3) (cwV 1 hts gX11_look_X7_thingAt rfl rfl rfl (by decide +kernel) ⟨Nat.le_of_ble_eq_true rfl, Nat.le_of_ble_eq_true rfl⟩) (hw_pV (hw_rc (q := (RX7, TX7, 3)) hK v11 rfl) hH hK hST hS (by decide) (fun _ h => Or.inl h) trivial) rfl rfl hl.1 rfl (lv_room (Nat.le_of_ble_eq_true rfl)) dX11_look_40 ⟨Nat.le_of_ble_eq_true rfl, Nat.le_of_ble_eq_true rfl⟩) (fun v hp => ?_)
            obtain ⟨x21, rfl⟩ := hp
            refine lv_lstore (lv' := [(4, .long x21), (3, .ref b2), (0, .ref h0), (1, .int p1), (2, .int p2)]) hx hb dX11_look_43 hl (by decide) rfl (fun ls hl => ?_)
            refine lv_lload hx hb dX11_look_45 (lv_at hl 0 rfl) ?_
            refine lv_lconst (v := 0) hx hb dX11_look_47 (by decide) ?_
            refine W.lcmp hx hb dX11_look_48 ?_
            refine lv_topi (fun x22 e23 => ?_)
            refine lv_if_ge (tgt := 67) hx hb dX11_look_49 (by decide) (fun c24 => ?_) (fun c24 => ?_)
            · have b25 := hw_cmpge (e23 ▸ c24)
              refine lv_lload hx hb dX11_look_67 (lv_at hl 0 rfl) ?_
              refine lv_ldc2 (v := 1000000000000) hx hb hown (hts (.constantLong RX11 339 (1000000000000)) (by decide +kernel)) dX11_look_69 ?_
              refine W.lcmp hx hb dX11_look_72 ?_
              refine lv_topi (fun x26 e27 => ?_)
              refine lv_if_gt (tgt := 81) hx hb dX11_look_73 (by decide) (fun c28 => ?_) (fun c28 => ?_)
              · have b29 := hw_cmpgt (e27 ▸ c28)
                refine lv_lload hx hb dX11_look_81 (lv_at hl 0 rfl) ?_
                refine lv_ldc2 (v := 1000003) hx hb hown (hts (.constantLong RX11 335 (1000003)) (by decide +kernel)) dX11_look_83 ?_
                refine lv_lrem hx hb dX11_look_86 (by decide) ?_
                refine lv_topl (fun x30 e31 => ?_)
                refine lv_ldc2 (v := 2000000000000) hx hb hown (hts (.constantLong RX11 341 (2000000000000)) (by decide +kernel)) dX11_look_87 ?_
                refine lv_ladd hx hb dX11_look_90  ?_
                refine lv_topl (fun x32 e33 => ?_)
                exact hw_lretR (v := x32) hx hb hr hlocks hQ (Or.inr (Or.inr (Or.inr (⟨x32, rfl, (by first | rfl | trivial | assumption | omega | (intros; first | rfl | assumption | omega | (exfalso; omega))), (by first | rfl | trivial | assumption | omega | (intros; first | rfl | assumption | omega | (exfalso; omega)))⟩)))) dX11_look_91
              · have b34 := hw_cmpngt (e27 ▸ c28)
                refine lv_lload hx hb dX11_look_76 (lv_at hl 0 rfl) ?_
                refine lv_goto (tgt := 91) hx hb dX11_look_78 (by decide) ?_
                exact hw_lretR (v := x21) hx hb hr hlocks hQ (Or.inr (Or.inr (Or.inr (⟨x21, rfl, (by first | rfl | trivial | assumption | omega | (intros; first | rfl | assumption | omega | (exfalso; omega))), (by first | rfl | trivial | assumption | omega | (intros; first | rfl | assumption | omega | (exfalso; omega)))⟩)))) dX11_look_91
            · have b35 := hw_cmpnge (e23 ▸ c24)
              refine lv_ldc2 (v := (-1)) hx hb hown (hts (.constantLong RX11 333 (-1)) (by decide +kernel)) dX11_look_52 ?_
              refine lv_lload hx hb dX11_look_55 (lv_at hl 0 rfl) ?_
              refine lv_lsub hx hb dX11_look_57  ?_
              refine lv_topl (fun x36 e37 => ?_)
              refine lv_ldc2 (v := 1000003) hx hb hown (hts (.constantLong RX11 335 (1000003)) (by decide +kernel)) dX11_look_58 ?_
              refine lv_lrem hx hb dX11_look_61 (by decide) ?_
              refine lv_topl (fun x38 e39 => ?_)
              refine lv_ldc2 (v := 3000000000000) hx hb hown (hts (.constantLong RX11 337 (3000000000000)) (by decide +kernel)) dX11_look_62 ?_
              refine lv_ladd hx hb dX11_look_65  ?_
              refine lv_topl (fun x40 e41 => ?_)
              exact hw_lretR (v := x40) hx hb hr hlocks hQ (Or.inr (Or.inr (Or.inr (⟨x40, rfl, (by first | rfl | trivial | assumption | omega | (intros; first | rfl | assumption | omega | (exfalso; omega))), (by first | rfl | trivial | assumption | omega | (intros; first | rfl | assumption | omega | (exfalso; omega)))⟩)))) dX11_look_66
          · exact absurd c20 (by decide)
        · refine lv_if_ne (tgt := 38) hx hb dX11_look_31 (by decide) (fun c42 => ?_) (fun c42 => ?_)
          · exact absurd c42 (by decide)
          · refine lv_ldc2 (v := (-13)) hx hb hown (hts (.constantLong RX11 327 (-13)) (by decide +kernel)) dX11_look_34 ?_
            exact hw_lretR (v := (-13)) hx hb hr hlocks hQ (Or.inr (Or.inr (Or.inl ⟨rfl, (by first | rfl | trivial | assumption | omega | (intros; first | rfl | assumption | omega | (exfalso; omega))), (by first | rfl | trivial | assumption | omega | (intros; first | rfl | assumption | omega | (exfalso; omega))), (by first | rfl | trivial | assumption | omega | (intros; first | rfl | assumption | omega | (exfalso; omega)))⟩))) dX11_look_37
      · exact absurd c16 (by decide)

set_option maxHeartbeats 4000000 in
set_option maxRecDepth 100000 in
theorem k_X11_copy (l : Launch) (D : hw_D) (G : Nat → Nat) (h0 : Nat) (p1 : Int32) (p2 : Int32) (p3 : Int32) (p4 : Int32) (p5 : Int32) (sz : Nat) (la : Nat → Int32) (sz9 : Nat → Int32) (rx : Nat → Nat) (pn_x pc_x ks_x sc_x : Int32) (fq : Nat → Option Nat) (G0 : G h0 = 1) (Rx : hw_RX G rx) (gsc_x : 0 ≤ sc_x.toInt ∧ sc_x.toInt ≤ 6) (qq : ∀ j, j < 4 → ∃ b, fq j = some b ∧ G b = 6) : Met l yX11_copy wsX11_copy ({ frames := 2, cells := 0, slots := 0, locals := 45 } : Room) (hw_PC D G [.ref h0, .int p1, .int p2, .int p3, .int p4, .int p5] sz (fun H => va_at D.1 vwCl (h0, .inr (10, hw_LX rx pn_x pc_x ks_x sc_x)) H ∧ va_at D.1 vwCl ((rx 13), .inl (D.2.1 7, 4, .inr (.inr (.inr (.inr fq))))) H ∧ hw_Racks D G fq la sz9 H)) (hw_QM (fun v H => (v = some (.int (-2)) ∧ hw_HT D G H ∧ hw_Racks D G fq la sz9 H ∧ va_at D.1 vwCl (h0, .inr (10, hw_LX rx pn_x pc_x ks_x sc_x)) H ∧ va_at D.1 vwCl ((rx 13), .inl (D.2.1 7, 4, .inr (.inr (.inr (.inr fq))))) H ∧ ((p1.toInt < 0 ∨ 3 < p1.toInt) ∨ (p3.toInt < 0 ∨ 3 < p3.toInt))) ∨ (v = some (.int (-11)) ∧ hw_HT D G H ∧ hw_Racks D G fq la sz9 H ∧ va_at D.1 vwCl (h0, .inr (10, hw_LX rx pn_x pc_x ks_x sc_x)) H ∧ va_at D.1 vwCl ((rx 13), .inl (D.2.1 7, 4, .inr (.inr (.inr (.inr fq))))) H ∧ ((0 ≤ p1.toInt ∧ p1.toInt ≤ 3)) ∧ ((0 ≤ p3.toInt ∧ p3.toInt ≤ 3)) ∧ ((la p1.toNatClampNeg).toInt = -1 ∨ (la p3.toNatClampNeg).toInt = -1)) ∨ (v = some (.int (-15)) ∧ hw_HT D G H ∧ hw_Racks D G fq la sz9 H ∧ va_at D.1 vwCl (h0, .inr (10, hw_LX rx pn_x pc_x ks_x sc_x)) H ∧ va_at D.1 vwCl ((rx 13), .inl (D.2.1 7, 4, .inr (.inr (.inr (.inr fq))))) H ∧ ((0 ≤ p1.toInt ∧ p1.toInt ≤ 3)) ∧ ((0 ≤ p3.toInt ∧ p3.toInt ≤ 3)) ∧ (la p1.toNatClampNeg).toInt ≠ -1 ∧ (la p3.toNatClampNeg).toInt ≠ -1 ∧ (la p1.toNatClampNeg).toInt ≠ (la p3.toNatClampNeg).toInt) ∨ (v = some (.int (-13)) ∧ hw_HT D G H ∧ hw_Racks D G fq la sz9 H ∧ va_at D.1 vwCl (h0, .inr (10, hw_LX rx pn_x pc_x ks_x sc_x)) H ∧ va_at D.1 vwCl ((rx 13), .inl (D.2.1 7, 4, .inr (.inr (.inr (.inr fq))))) H ∧ ((0 ≤ p1.toInt ∧ p1.toInt ≤ 3)) ∧ ((0 ≤ p3.toInt ∧ p3.toInt ≤ 3)) ∧ (la p1.toNatClampNeg).toInt ≠ -1 ∧ (la p3.toNatClampNeg).toInt ≠ -1 ∧ (la p1.toNatClampNeg).toInt = (la p3.toNatClampNeg).toInt ∧ (p5.toInt < 0 ∨ p2.toInt < 0 ∨ p4.toInt < 0 ∨ (sz9 p1.toNatClampNeg).toInt < p2.toInt + p5.toInt ∨ (sz9 p3.toNatClampNeg).toInt < p4.toInt + p5.toInt)) ∨ (∃ (r : Int32), v = some (.int r) ∧ hw_HT D G H ∧ hw_Racks D G fq la sz9 H ∧ va_at D.1 vwCl (h0, .inr (10, hw_LX rx pn_x pc_x ks_x sc_x)) H ∧ va_at D.1 vwCl ((rx 13), .inl (D.2.1 7, 4, .inr (.inr (.inr (.inr fq))))) H ∧ ((0 ≤ p1.toInt ∧ p1.toInt ≤ 3)) ∧ ((0 ≤ p3.toInt ∧ p3.toInt ≤ 3)) ∧ (la p1.toNatClampNeg).toInt ≠ -1 ∧ (la p3.toNatClampNeg).toInt ≠ -1 ∧ (la p1.toNatClampNeg).toInt = (la p3.toNatClampNeg).toInt ∧ (0 ≤ p5.toInt ∧ 0 ≤ p2.toInt ∧ 0 ≤ p4.toInt ∧ p2.toInt + p5.toInt ≤ (sz9 p1.toNatClampNeg).toInt ∧ p4.toInt + p5.toInt ≤ (sz9 p3.toNatClampNeg).toInt) ∧ r = p5)) (hw_AW G [19] sz)) 0 0 (hw_AW G [19] sz) := by
  refine hw_met (cc := cX11_copy) (maxL := 10) (ret := (some .int)) (plainFor_of_name (by decide)) rfl (Nat.le_of_ble_eq_true rfl) ?_
  intro p e s m args below meth c QQ ls hsz hx hb hml hr hts hown hlocks hnm hH hK hST hF hQ hl
  subst hsz
  have hS : va_S (hw_AW G [19] s.heap.size) s.heap s.heap [] := va_S.rf
  obtain ⟨vx, vq, hRK⟩ := hF
  have hl : lv_has ls 10 [(0, .ref h0), (1, .int p1), (2, .int p2), (3, .int p3), (4, .int p4), (5, .int p5)] := hl
  have u_6 : ∀ w ∈ u_ws RX7 TX7 3, w.before args s = true := fun w hw => hts w ((by decide +kernel : ∀ w ∈ u_ws RX7 TX7 3, w ∈ wsX11_copy) w hw)
  have fg_313_6 : hw_FG s args m 313 6 1 := ⟨RX11, "WardWalkers$Rack", RX7, TX7, 3, u_6, hown, rfl, by decide, (hts (.fieldLink RX11 313 "WardWalkers$Rack" "lane" "I") (by decide +kernel)), (fun _ h9 => h9)⟩
  have hp5 := hw_rng p5
  refine lv_aload_n hx hb dX11_copy_0 rfl (lv_at hl 0 rfl) ?_
  refine lv_iload_n hx hb dX11_copy_1 rfl (lv_at hl 1 rfl) ?_
  refine hw_cR (va_runV (As := [.int p1]) (rest := []) ⟨hx, hb, hml, hown, hts⟩ (k_X11_rackAt l D G h0 p1 _ rx pn_x pc_x ks_x sc_x fq G0 Rx ⟨by first | decide | omega, by first | decide | omega⟩ qq) (cwV 1 hts gX11_copy_X11_rackAt rfl rfl rfl (by decide +kernel) ⟨Nat.le_of_ble_eq_true rfl, Nat.le_of_ble_eq_true rfl⟩) (hw_pV (hw_rc (q := (RX11, TX11, 14)) hK vx rfl) hH hK hST hS (by decide) (fun _ h => Or.inl h) ⟨vx, vq⟩) rfl rfl hl.1 rfl (lv_room (Nat.le_of_ble_eq_true rfl)) dX11_copy_2 ⟨Nat.le_of_ble_eq_true rfl, Nat.le_of_ble_eq_true rfl⟩) (fun v hp => ?_)
  rcases hp with ⟨rfl, q1⟩ | ⟨b2, rfl, k3, q4, q5⟩
  · refine lv_astoreN (lv' := [(6, .null), (0, .ref h0), (1, .int p1), (2, .int p2), (3, .int p3), (4, .int p4), (5, .int p5)]) hx hb dX11_copy_5 hl (by decide) rfl (fun ls hl => ?_)
    refine lv_aload_n hx hb dX11_copy_7 rfl (lv_at hl 1 rfl) ?_
    refine lv_iload_n hx hb dX11_copy_8 rfl (lv_at hl 4 rfl) ?_
    refine hw_cR (va_runV (As := [.int p3]) (rest := []) ⟨hx, hb, hml, hown, hts⟩ (k_X11_rackAt l D G h0 p3 _ rx pn_x pc_x ks_x sc_x fq G0 Rx ⟨by first | decide | omega, by first | decide | omega⟩ qq) (cwV 1 hts gX11_copy_X11_rackAt rfl rfl rfl (by decide +kernel) ⟨Nat.le_of_ble_eq_true rfl, Nat.le_of_ble_eq_true rfl⟩) (hw_pV (hw_rc (q := (RX11, TX11, 14)) hK vx rfl) hH hK hST hS (by decide) (fun _ h => Or.inl h) ⟨vx, vq⟩) rfl rfl hl.1 rfl (lv_room (Nat.le_of_ble_eq_true rfl)) dX11_copy_9 ⟨Nat.le_of_ble_eq_true rfl, Nat.le_of_ble_eq_true rfl⟩) (fun v hp => ?_)
    rcases hp with ⟨rfl, q6⟩ | ⟨b7, rfl, k8, q9, q10⟩
    · refine lv_astoreN (lv' := [(7, .null), (6, .null), (0, .ref h0), (1, .int p1), (2, .int p2), (3, .int p3), (4, .int p4), (5, .int p5)]) hx hb dX11_copy_12 hl (by decide) rfl (fun ls hl => ?_)
      refine lv_aloadN hx hb dX11_copy_14 (lv_at hl 1 rfl) ?_
      refine lv_ifnullN (tgt := 24) hx hb dX11_copy_16 (by decide) ?_
      refine lv_bipush (v := (-2)) hx hb dX11_copy_24 (by decide) ?_
      exact hw_iretM (v := (-2)) hx hb hr hlocks hQ hS rfl (Or.inl ⟨rfl, hH, (by first | exact hRK | (subst_vars; exact hRK)), vx, vq, (by first | rfl | trivial | assumption | omega | (intros; first | rfl | assumption | omega | (exfalso; omega)))⟩) dX11_copy_26
    · obtain ⟨a11, r12, e13, k14, R15, v16⟩ := hRK.2 _ (hw_i4 q9)
      have e17 : a11 = b7 := Option.some.inj (e13.symm.trans q10)
      rw [e17] at k14 v16
      refine lv_astore (lv' := [(7, .ref b7), (6, .null), (0, .ref h0), (1, .int p1), (2, .int p2), (3, .int p3), (4, .int p4), (5, .int p5)]) hx hb dX11_copy_12 hl (by decide) rfl (fun ls hl => ?_)
      refine lv_aloadN hx hb dX11_copy_14 (lv_at hl 1 rfl) ?_
      refine lv_ifnullN (tgt := 24) hx hb dX11_copy_16 (by decide) ?_
      refine lv_bipush (v := (-2)) hx hb dX11_copy_24 (by decide) ?_
      exact hw_iretM (v := (-2)) hx hb hr hlocks hQ hS rfl (Or.inl ⟨rfl, hH, (by first | exact hRK | (subst_vars; exact hRK)), vx, vq, (by first | rfl | trivial | assumption | omega | (intros; first | rfl | assumption | omega | (exfalso; omega)))⟩) dX11_copy_26
  · obtain ⟨a18, r19, e20, k21, R22, v23⟩ := hRK.2 _ (hw_i4 q4)
    have e24 : a18 = b2 := Option.some.inj (e20.symm.trans q5)
    rw [e24] at k21 v23
    refine lv_astore (lv' := [(6, .ref b2), (0, .ref h0), (1, .int p1), (2, .int p2), (3, .int p3), (4, .int p4), (5, .int p5)]) hx hb dX11_copy_5 hl (by decide) rfl (fun ls hl => ?_)
    refine lv_aload_n hx hb dX11_copy_7 rfl (lv_at hl 1 rfl) ?_
    refine lv_iload_n hx hb dX11_copy_8 rfl (lv_at hl 4 rfl) ?_
    refine hw_cR (va_runV (As := [.int p3]) (rest := []) ⟨hx, hb, hml, hown, hts⟩ (k_X11_rackAt l D G h0 p3 _ rx pn_x pc_x ks_x sc_x fq G0 Rx ⟨by first | decide | omega, by first | decide | omega⟩ qq) (cwV 1 hts gX11_copy_X11_rackAt rfl rfl rfl (by decide +kernel) ⟨Nat.le_of_ble_eq_true rfl, Nat.le_of_ble_eq_true rfl⟩) (hw_pV (hw_rc (q := (RX11, TX11, 14)) hK vx rfl) hH hK hST hS (by decide) (fun _ h => Or.inl h) ⟨vx, vq⟩) rfl rfl hl.1 rfl (lv_room (Nat.le_of_ble_eq_true rfl)) dX11_copy_9 ⟨Nat.le_of_ble_eq_true rfl, Nat.le_of_ble_eq_true rfl⟩) (fun v hp => ?_)
    rcases hp with ⟨rfl, q25⟩ | ⟨b26, rfl, k27, q28, q29⟩
    · refine lv_astoreN (lv' := [(7, .null), (6, .ref b2), (0, .ref h0), (1, .int p1), (2, .int p2), (3, .int p3), (4, .int p4), (5, .int p5)]) hx hb dX11_copy_12 hl (by decide) rfl (fun ls hl => ?_)
      refine lv_aload hx hb dX11_copy_14 (lv_at hl 1 rfl) ?_
      refine lv_ifnull hx hb dX11_copy_16 ?_
      refine lv_aloadN hx hb dX11_copy_19 (lv_at hl 0 rfl) ?_
      refine lv_ifnonnullN hx hb dX11_copy_21 ?_
      refine lv_bipush (v := (-2)) hx hb dX11_copy_24 (by decide) ?_
      exact hw_iretM (v := (-2)) hx hb hr hlocks hQ hS rfl (Or.inl ⟨rfl, hH, (by first | exact hRK | (subst_vars; exact hRK)), vx, vq, (by first | rfl | trivial | assumption | omega | (intros; first | rfl | assumption | omega | (exfalso; omega)))⟩) dX11_copy_26
    · obtain ⟨a30, r31, e32, k33, R34, v35⟩ := hRK.2 _ (hw_i4 q28)
      have e36 : a30 = b26 := Option.some.inj (e32.symm.trans q29)
      rw [e36] at k33 v35
      refine lv_astore (lv' := [(7, .ref b26), (6, .ref b2), (0, .ref h0), (1, .int p1), (2, .int p2), (3, .int p3), (4, .int p4), (5, .int p5)]) hx hb dX11_copy_12 hl (by decide) rfl (fun ls hl => ?_)
      refine lv_aload hx hb dX11_copy_14 (lv_at hl 1 rfl) ?_
      refine lv_ifnull hx hb dX11_copy_16 ?_
      refine lv_aload hx hb dX11_copy_19 (lv_at hl 0 rfl) ?_
      refine lv_ifnonnull (tgt := 27) hx hb dX11_copy_21 (by decide) ?_
      refine lv_aload hx hb dX11_copy_27 (lv_at hl 1 rfl) ?_
      refine hw_cR (va_runV (As := []) (rest := []) ⟨hx, hb, hml, hown, hts⟩ (k_X7_isMissing l D G b2 _ r19 (la p1.toNatClampNeg) (sz9 p1.toNatClampNeg) k3 R22) (cwV 0 hts gX11_copy_X7_isMissing rfl rfl rfl (by decide +kernel) ⟨Nat.le_of_ble_eq_true rfl, Nat.le_of_ble_eq_true rfl⟩) (hw_pV (hw_rc (q := (RX7, TX7, 3)) hK v23 rfl) hH hK hST hS (by decide) (fun _ h => Or.inl h) v23) rfl rfl hl.1 rfl (lv_room (Nat.le_of_ble_eq_true rfl)) dX11_copy_29 ⟨Nat.le_of_ble_eq_true rfl, Nat.le_of_ble_eq_true rfl⟩) (fun v hp => ?_)
      rcases hp with ⟨rfl, q37⟩ | ⟨rfl, q38⟩
      · refine lv_if_ne (tgt := 43) hx hb dX11_copy_32 (by decide) (fun c39 => ?_) (fun c39 => ?_)
        · refine lv_bipush (v := (-11)) hx hb dX11_copy_43 (by decide) ?_
          exact hw_iretM (v := (-11)) hx hb hr hlocks hQ hS rfl (Or.inr (Or.inl ⟨rfl, hH, (by first | exact hRK | (subst_vars; exact hRK)), vx, vq, (by first | rfl | trivial | assumption | omega | (intros; first | rfl | assumption | omega | (exfalso; omega))), (by first | rfl | trivial | assumption | omega | (intros; first | rfl | assumption | omega | (exfalso; omega))), (by first | rfl | trivial | assumption | omega | (intros; first | rfl | assumption | omega | (exfalso; omega)))⟩)) dX11_copy_45
        · exact absurd c39 (by decide)
      · refine lv_if_ne (tgt := 43) hx hb dX11_copy_32 (by decide) (fun c40 => ?_) (fun c40 => ?_)
        · exact absurd c40 (by decide)
        · refine lv_aload hx hb dX11_copy_35 (lv_at hl 0 rfl) ?_
          refine hw_cR (va_runV (As := []) (rest := []) ⟨hx, hb, hml, hown, hts⟩ (k_X7_isMissing l D G b26 _ r31 (la p3.toNatClampNeg) (sz9 p3.toNatClampNeg) k27 R34) (cwV 0 hts gX11_copy_X7_isMissing rfl rfl rfl (by decide +kernel) ⟨Nat.le_of_ble_eq_true rfl, Nat.le_of_ble_eq_true rfl⟩) (hw_pV (hw_rc (q := (RX7, TX7, 3)) hK v35 rfl) hH hK hST hS (by decide) (fun _ h => Or.inl h) v35) rfl rfl hl.1 rfl (lv_room (Nat.le_of_ble_eq_true rfl)) dX11_copy_37 ⟨Nat.le_of_ble_eq_true rfl, Nat.le_of_ble_eq_true rfl⟩) (fun v hp => ?_)
          rcases hp with ⟨rfl, q41⟩ | ⟨rfl, q42⟩
          · refine lv_if_eq (tgt := 46) hx hb dX11_copy_40 (by decide) (fun c43 => ?_) (fun c43 => ?_)
            · exact absurd c43 (by decide)
            · refine lv_bipush (v := (-11)) hx hb dX11_copy_43 (by decide) ?_
              exact hw_iretM (v := (-11)) hx hb hr hlocks hQ hS rfl (Or.inr (Or.inl ⟨rfl, hH, (by first | exact hRK | (subst_vars; exact hRK)), vx, vq, (by first | rfl | trivial | assumption | omega | (intros; first | rfl | assumption | omega | (exfalso; omega))), (by first | rfl | trivial | assumption | omega | (intros; first | rfl | assumption | omega | (exfalso; omega))), (by first | rfl | trivial | assumption | omega | (intros; first | rfl | assumption | omega | (exfalso; omega)))⟩)) dX11_copy_45
          · refine lv_if_eq (tgt := 46) hx hb dX11_copy_40 (by decide) (fun c44 => ?_) (fun c44 => ?_)
            · refine lv_aload hx hb dX11_copy_46 (lv_at hl 1 rfl) ?_
              refine hw_get hx hb fg_313_6 hK v23 rfl dX11_copy_48 ?_
              refine lv_aload hx hb dX11_copy_51 (lv_at hl 0 rfl) ?_
              refine hw_get hx hb fg_313_6 hK v35 rfl dX11_copy_53 ?_
              refine lv_icmp_eq (tgt := 62) hx hb dX11_copy_56 (by decide) (fun c45 => ?_) (fun c45 => ?_)
              · have b46 : (la p1.toNatClampNeg).toInt = (la p3.toNatClampNeg).toInt := hw_ieq c45
                refine lv_aload hx hb dX11_copy_62 (lv_at hl 1 rfl) ?_
                refine lv_iload_n hx hb dX11_copy_64 rfl (lv_at hl 4 rfl) ?_
                refine lv_iload hx hb dX11_copy_65 (lv_at hl 7 rfl) ?_
                refine hw_cR (va_runV (As := [.int p2, .int p5]) (rest := []) ⟨hx, hb, hml, hown, hts⟩ (k_X7_spans l D G b2 p2 p5 _ r19 (la p1.toNatClampNeg) (sz9 p1.toNatClampNeg) k3 R22) (cwV 2 hts gX11_copy_X7_spans rfl rfl rfl (by decide +kernel) ⟨Nat.le_of_ble_eq_true rfl, Nat.le_of_ble_eq_true rfl⟩) (hw_pV (hw_rc (q := (RX7, TX7, 3)) hK v23 rfl) hH hK hST hS (by decide) (fun _ h => Or.inl h) v23) rfl rfl hl.1 rfl (lv_room (Nat.le_of_ble_eq_true rfl)) dX11_copy_67 ⟨Nat.le_of_ble_eq_true rfl, Nat.le_of_ble_eq_true rfl⟩) (fun v hp => ?_)
                rcases hp with ⟨rfl, q47⟩ | ⟨rfl, q48⟩
                · refine lv_if_eq (tgt := 85) hx hb dX11_copy_70 (by decide) (fun c49 => ?_) (fun c49 => ?_)
                  · exact absurd c49 (by decide)
                  · refine lv_aload hx hb dX11_copy_73 (lv_at hl 0 rfl) ?_
                    refine lv_iload hx hb dX11_copy_75 (lv_at hl 6 rfl) ?_
                    refine lv_iload hx hb dX11_copy_77 (lv_at hl 7 rfl) ?_
                    refine hw_cR (va_runV (As := [.int p4, .int p5]) (rest := []) ⟨hx, hb, hml, hown, hts⟩ (k_X7_spans l D G b26 p4 p5 _ r31 (la p3.toNatClampNeg) (sz9 p3.toNatClampNeg) k27 R34) (cwV 2 hts gX11_copy_X7_spans rfl rfl rfl (by decide +kernel) ⟨Nat.le_of_ble_eq_true rfl, Nat.le_of_ble_eq_true rfl⟩) (hw_pV (hw_rc (q := (RX7, TX7, 3)) hK v35 rfl) hH hK hST hS (by decide) (fun _ h => Or.inl h) v35) rfl rfl hl.1 rfl (lv_room (Nat.le_of_ble_eq_true rfl)) dX11_copy_79 ⟨Nat.le_of_ble_eq_true rfl, Nat.le_of_ble_eq_true rfl⟩) (fun v hp => ?_)
                    rcases hp with ⟨rfl, q50⟩ | ⟨rfl, q51⟩
                    · refine lv_if_ne (tgt := 88) hx hb dX11_copy_82 (by decide) (fun c52 => ?_) (fun c52 => ?_)
                      · refine lv_iconst (v := 0) hx hb dX11_copy_88 (by decide) ?_
                        refine lv_istore (lv' := [(8, .int 0), (7, .ref b26), (6, .ref b2), (0, .ref h0), (1, .int p1), (2, .int p2), (3, .int p3), (4, .int p4), (5, .int p5)]) hx hb dX11_copy_89 hl (by decide) rfl (fun ls hl => ?_)
                        have L91 : ∀ (n55 : Nat) (y8_53 : Int32) (hm : (p5.toInt - y8_53.toInt).toNat < n55) (g54 : 0 ≤ y8_53.toInt ∧ y8_53.toInt ≤ 2147483647) (H : Heap) (locs : List Loc) (hH : hw_HT D G H) (vx : va_at D.1 vwCl (h0, .inr (10, hw_LX rx pn_x pc_x ks_x sc_x)) H) (vq : va_at D.1 vwCl ((rx 13), .inl (D.2.1 7, 4, .inr (.inr (.inr (.inr fq))))) H) (hRK : hw_Racks D G fq la sz9 H) (hS : va_S (hw_AW G [19] s.heap.size) s.heap H locs) (ls : Array Slot) (hl : lv_has ls 10 [(8, .int y8_53), (7, .ref b26), (6, .ref b2), (0, .ref h0), (1, .int p1), (2, .int p2), (3, .int p3), (4, .int p4), (5, .int p5)]), W p l e ({ frames := 2, cells := 0, slots := 0, locals := 45 } : Room) s m args below meth c H locs 0 0 QQ (F0 m 91 ls []) := by
                          intro n55
                          induction n55 with
                          | zero => intro y8_53 hm; exact absurd hm (Nat.not_lt_zero _)
                          | succ n55 ih91 =>
                            intro y8_53 hm g54 H locs hH vx vq hRK hS ls hl
                            refine lv_iload hx hb dX11_copy_91 (lv_at hl 0 rfl) ?_
                            refine lv_iload hx hb dX11_copy_93 (lv_at hl 8 rfl) ?_
                            refine lv_icmp_ge (tgt := 143) hx hb dX11_copy_95 (by decide) (fun c56 => ?_) (fun c56 => ?_)
                            · have b57 : p5.toInt ≤ y8_53.toInt := hw_ile c56
                              refine lv_iload hx hb dX11_copy_143 (lv_at hl 8 rfl) ?_
                              exact hw_iretM (v := p5) hx hb hr hlocks hQ hS rfl (Or.inr (Or.inr (Or.inr (Or.inr (⟨p5, rfl, hH, (by first | exact hRK | (subst_vars; exact hRK)), vx, vq, (by first | rfl | trivial | assumption | omega | (intros; first | rfl | assumption | omega | (exfalso; omega))), (by first | rfl | trivial | assumption | omega | (intros; first | rfl | assumption | omega | (exfalso; omega))), (by first | rfl | trivial | assumption | omega | (intros; first | rfl | assumption | omega | (exfalso; omega))), (by first | rfl | trivial | assumption | omega | (intros; first | rfl | assumption | omega | (exfalso; omega))), (by first | rfl | trivial | assumption | omega | (intros; first | rfl | assumption | omega | (exfalso; omega))), (by first | rfl | trivial | assumption | omega | (intros; first | rfl | assumption | omega | (exfalso; omega))), (by first | rfl | trivial | assumption | omega | (intros; first | rfl | assumption | omega | (exfalso; omega)))⟩))))) dX11_copy_145
                            · have b58 : y8_53.toInt < p5.toInt := hw_inle c56
                              refine lv_iload_n hx hb dX11_copy_98 rfl (lv_at hl 5 rfl) ?_
                              refine lv_iload hx hb dX11_copy_99 (lv_at hl 7 rfl) ?_
                              refine lv_icmp_ge (tgt := 114) hx hb dX11_copy_101 (by decide) (fun c59 => ?_) (fun c59 => ?_)
                              · have b60 : p4.toInt ≤ p2.toInt := hw_ile c59
                                refine lv_iload hx hb dX11_copy_114 (lv_at hl 0 rfl) ?_
                                refine lv_istore (lv' := [(9, .int y8_53), (8, .int y8_53), (7, .ref b26), (6, .ref b2), (0, .ref h0), (1, .int p1), (2, .int p2), (3, .int p3), (4, .int p4), (5, .int p5)]) hx hb dX11_copy_116 hl (by decide) rfl (fun ls hl => ?_)
                                refine lv_aload hx hb dX11_copy_118 (lv_at hl 2 rfl) ?_
                                refine lv_iload hx hb dX11_copy_120 (lv_at hl 8 rfl) ?_
                                refine lv_iload hx hb dX11_copy_122 (lv_at hl 0 rfl) ?_
                                refine lv_iadd hx hb dX11_copy_124 ?_
                                refine lv_topi (fun x61 e62 => ?_)
                                refine lv_aload hx hb dX11_copy_125 (lv_at hl 3 rfl) ?_
                                refine lv_iload_n hx hb dX11_copy_127 rfl (lv_at hl 6 rfl) ?_
                                refine lv_iload hx hb dX11_copy_128 (lv_at hl 0 rfl) ?_
                                refine lv_iadd hx hb dX11_copy_130 ?_
                                refine lv_topi (fun x63 e64 => ?_)
                                obtain ⟨r65, la_66, sz_67, v68, R69⟩ := hH.oK k3
                                refine hw_cR (va_runV (As := [.int x63]) (rest := [.int x61, .ref b26]) ⟨hx, hb, hml, hown, hts⟩ (k_X7_thingAt l D G b2 x63 _ k3) (cwV 1 hts gX11_copy_X7_thingAt rfl rfl rfl (by decide +kernel) ⟨Nat.le_of_ble_eq_true rfl, Nat.le_of_ble_eq_true rfl⟩) (hw_pV (hw_rc (q := (RX7, TX7, 3)) hK v68 rfl) hH hK hST hS (by decide) (fun _ h => Or.inl h) trivial) rfl rfl hl.1 rfl (lv_room (Nat.le_of_ble_eq_true rfl)) dX11_copy_131 ⟨Nat.le_of_ble_eq_true rfl, Nat.le_of_ble_eq_true rfl⟩) (fun v hp => ?_)
                                obtain ⟨x70, rfl⟩ := hp
                                obtain ⟨r71, la_72, sz_73, v74, R75⟩ := hH.oK k27
                                refine hw_cM0 (va_runV (As := [.int x61, .long x70]) (rest := []) ⟨hx, hb, hml, hown, hts⟩ (k_X7_put l D G b26 x61 x70 _ k27) (cwV 2 hts gX11_copy_X7_put rfl rfl rfl (by decide +kernel) ⟨Nat.le_of_ble_eq_true rfl, Nat.le_of_ble_eq_true rfl⟩) (hw_pV (hw_rc (q := (RX7, TX7, 3)) hK v74 rfl) hH hK hST hS (by decide) (fun _ h => Or.inl h) trivial) rfl rfl hl.1 rfl (lv_room (Nat.le_of_ble_eq_true rfl)) dX11_copy_134 ⟨Nat.le_of_ble_eq_true rfl, Nat.le_of_ble_eq_true rfl⟩) hS (hw_AWsub (by decide) (fun _ _ => rfl) hS.1) (fun v H locs hp hz hk hS => ?_)
                                obtain ⟨rfl, hH⟩ := hp
                                have hRK := hw_Racks.kept hRK (fun q9 h9 l9 => hk q9 l9 (hw_AWn h9 (by decide) l9))
                                have vx := va_at.kept vx (hk _ (hw_lt vx) (hw_AWn G0 (by decide) (hw_lt vx)))
                                have vq := va_at.kept vq (hk _ (hw_lt vq) (hw_AWn (hw_RX_13 Rx) (by decide) (hw_lt vq)))
                                have v68 := va_at.kept v68 (hk _ (hw_lt v68) (hw_AWn k3 (by decide) (hw_lt v68)))
                                have v74 := va_at.kept v74 (hk _ (hw_lt v74) (hw_AWn k27 (by decide) (hw_lt v74)))
                                obtain ⟨x76, e77⟩ : ∃ y : Int32, y = y8_53 + 1 := ⟨_, rfl⟩
                                refine lv_iinc (v := x76) (lv' := [(8, .int x76), (9, .int y8_53), (7, .ref b26), (6, .ref b2), (0, .ref h0), (1, .int p1), (2, .int p2), (3, .int p3), (4, .int p4), (5, .int p5)]) hx hb dX11_copy_137 hl (k := 1) rfl (by rw [e77]; rfl) (by decide) rfl (fun ls hl => ?_)
                                have t78 : x76.toInt = y8_53.toInt + 1 := by rw [e77]; exact hw_add rfl rfl (by omega) (by omega)
                                refine lv_goto (tgt := 91) hx hb dX11_copy_140 (by decide) ?_
                                exact ih91 x76 (by first | omega | omega) ⟨by first | decide | omega, by first | decide | omega⟩ _ _ hH vx vq hRK hS _ (lv_sub hl [0, 2, 3, 4, 5, 6, 7, 8, 9] rfl)
                              · have b79 : p2.toInt < p4.toInt := hw_inle c59
                                refine lv_iload hx hb dX11_copy_104 (lv_at hl 8 rfl) ?_
                                refine lv_iconst (v := 1) hx hb dX11_copy_106 (by decide) ?_
                                refine lv_isub hx hb dX11_copy_107 ?_
                                refine lv_topi (fun x80 e81 => ?_)
                                have rg82 := hw_rng p5
                                have t83 : x80.toInt = p5.toInt - 1 := by rw [e81]; exact hw_sub rfl rfl (by omega) (by omega)
                                refine lv_iload hx hb dX11_copy_108 (lv_at hl 0 rfl) ?_
                                refine lv_isub hx hb dX11_copy_110 ?_
                                refine lv_topi (fun x84 e85 => ?_)
                                have t86 : x84.toInt = x80.toInt - y8_53.toInt := by rw [e85]; exact hw_sub rfl rfl (by omega) (by omega)
                                refine lv_goto (tgt := 116) hx hb dX11_copy_111 (by decide) ?_
                                refine lv_istore (lv' := [(9, .int x84), (8, .int y8_53), (7, .ref b26), (6, .ref b2), (0, .ref h0), (1, .int p1), (2, .int p2), (3, .int p3), (4, .int p4), (5, .int p5)]) hx hb dX11_copy_116 hl (by decide) rfl (fun ls hl => ?_)
                                refine lv_aload hx hb dX11_copy_118 (lv_at hl 2 rfl) ?_
                                refine lv_iload hx hb dX11_copy_120 (lv_at hl 8 rfl) ?_
                                refine lv_iload hx hb dX11_copy_122 (lv_at hl 0 rfl) ?_
                                refine lv_iadd hx hb dX11_copy_124 ?_
                                refine lv_topi (fun x87 e88 => ?_)
                                refine lv_aload hx hb dX11_copy_125 (lv_at hl 3 rfl) ?_
                                refine lv_iload_n hx hb dX11_copy_127 rfl (lv_at hl 6 rfl) ?_
                                refine lv_iload hx hb dX11_copy_128 (lv_at hl 0 rfl) ?_
                                refine lv_iadd hx hb dX11_copy_130 ?_
                                refine lv_topi (fun x89 e90 => ?_)
                                obtain ⟨r91, la_92, sz_93, v94, R95⟩ := hH.oK k3
                                refine hw_cR (va_runV (As := [.int x89]) (rest := [.int x87, .ref b26]) ⟨hx, hb, hml, hown, hts⟩ (k_X7_thingAt l D G b2 x89 _ k3) (cwV 1 hts gX11_copy_X7_thingAt rfl rfl rfl (by decide +kernel) ⟨Nat.le_of_ble_eq_true rfl, Nat.le_of_ble_eq_true rfl⟩) (hw_pV (hw_rc (q := (RX7, TX7, 3)) hK v94 rfl) hH hK hST hS (by decide) (fun _ h => Or.inl h) trivial) rfl rfl hl.1 rfl (lv_room (Nat.le_of_ble_eq_true rfl)) dX11_copy_131 ⟨Nat.le_of_ble_eq_true rfl, Nat.le_of_ble_eq_true rfl⟩) (fun v hp => ?_)
                                obtain ⟨x96, rfl⟩ := hp
                                obtain ⟨r97, la_98, sz_99, v100, R101⟩ := hH.oK k27
                                refine hw_cM0 (va_runV (As := [.int x87, .long x96]) (rest := []) ⟨hx, hb, hml, hown, hts⟩ (k_X7_put l D G b26 x87 x96 _ k27) (cwV 2 hts gX11_copy_X7_put rfl rfl rfl (by decide +kernel) ⟨Nat.le_of_ble_eq_true rfl, Nat.le_of_ble_eq_true rfl⟩) (hw_pV (hw_rc (q := (RX7, TX7, 3)) hK v100 rfl) hH hK hST hS (by decide) (fun _ h => Or.inl h) trivial) rfl rfl hl.1 rfl (lv_room (Nat.le_of_ble_eq_true rfl)) dX11_copy_134 ⟨Nat.le_of_ble_eq_true rfl, Nat.le_of_ble_eq_true rfl⟩) hS (hw_AWsub (by decide) (fun _ _ => rfl) hS.1) (fun v H locs hp hz hk hS => ?_)
                                obtain ⟨rfl, hH⟩ := hp
                                have hRK := hw_Racks.kept hRK (fun q9 h9 l9 => hk q9 l9 (hw_AWn h9 (by decide) l9))
                                have vx := va_at.kept vx (hk _ (hw_lt vx) (hw_AWn G0 (by decide) (hw_lt vx)))
                                have vq := va_at.kept vq (hk _ (hw_lt vq) (hw_AWn (hw_RX_13 Rx) (by decide) (hw_lt vq)))
                                have v94 := va_at.kept v94 (hk _ (hw_lt v94) (hw_AWn k3 (by decide) (hw_lt v94)))
                                have v100 := va_at.kept v100 (hk _ (hw_lt v100) (hw_AWn k27 (by decide) (hw_lt v100)))
                                obtain ⟨x102, e103⟩ : ∃ y : Int32, y = y8_53 + 1 := ⟨_, rfl⟩
                                refine lv_iinc (v := x102) (lv' := [(8, .int x102), (9, .int x84), (7, .ref b26), (6, .ref b2), (0, .ref h0), (1, .int p1), (2, .int p2), (3, .int p3), (4, .int p4), (5, .int p5)]) hx hb dX11_copy_137 hl (k := 1) rfl (by rw [e103]; rfl) (by decide) rfl (fun ls hl => ?_)
                                have t104 : x102.toInt = y8_53.toInt + 1 := by rw [e103]; exact hw_add rfl rfl (by omega) (by omega)
                                refine lv_goto (tgt := 91) hx hb dX11_copy_140 (by decide) ?_
                                exact ih91 x102 (by first | omega | omega) ⟨by first | decide | omega, by first | decide | omega⟩ _ _ hH vx vq hRK hS _ (lv_sub hl [0, 2, 3, 4, 5, 6, 7, 8, 9] rfl)
                        exact L91 _ 0 (Nat.lt_succ_self _) ⟨by first | decide | omega, by first | decide | omega⟩ _ _ hH vx vq hRK hS _ (lv_sub hl [0, 1, 2, 3, 4, 5, 6, 7, 8] rfl)
                      · exact absurd c52 (by decide)
                    · refine lv_if_ne (tgt := 88) hx hb dX11_copy_82 (by decide) (fun c105 => ?_) (fun c105 => ?_)
                      · exact absurd c105 (by decide)
                      · refine lv_bipush (v := (-13)) hx hb dX11_copy_85 (by decide) ?_
                        exact hw_iretM (v := (-13)) hx hb hr hlocks hQ hS rfl (Or.inr (Or.inr (Or.inr (Or.inl ⟨rfl, hH, (by first | exact hRK | (subst_vars; exact hRK)), vx, vq, (by first | rfl | trivial | assumption | omega | (intros; first | rfl | assumption | omega | (exfalso; omega))), (by first | rfl | trivial | assumption | omega | (intros; first | rfl | assumption | omega | (exfalso; omega))), (by first | rfl | trivial | assumption | omega | (intros; first | rfl | assumption | omega | (exfalso; omega))), (by first | rfl | trivial | assumption | omega | (intros; first | rfl | assumption | omega | (exfalso; omega))), (by first | rfl | trivial | assumption | omega | (intros; first | rfl | assumption | omega | (exfalso; omega))), (by first | rfl | trivial | assumption | omega | (intros; first | rfl | assumption | omega | (exfalso; omega)))⟩)))) dX11_copy_87
                · refine lv_if_eq (tgt := 85) hx hb dX11_copy_70 (by decide) (fun c106 => ?_) (fun c106 => ?_)
                  · refine lv_bipush (v := (-13)) hx hb dX11_copy_85 (by decide) ?_
                    exact hw_iretM (v := (-13)) hx hb hr hlocks hQ hS rfl (Or.inr (Or.inr (Or.inr (Or.inl ⟨rfl, hH, (by first | exact hRK | (subst_vars; exact hRK)), vx, vq, (by first | rfl | trivial | assumption | omega | (intros; first | rfl | assumption | omega | (exfalso; omega))), (by first | rfl | trivial | assumption | omega | (intros; first | rfl | assumption | omega | (exfalso; omega))), (by first | rfl | trivial | assumption | omega | (intros; first | rfl | assumption | omega | (exfalso; omega))), (by first | rfl | trivial | assumption | omega | (intros; first | rfl | assumption | omega | (exfalso; omega))), (by first | rfl | trivial | assumption | omega | (intros; first | rfl | assumption | omega | (exfalso; omega))), (by first | rfl | trivial | assumption | omega | (intros; first | rfl | assumption | omega | (exfalso; omega)))⟩)))) dX11_copy_87
                  · exact absurd c106 (by decide)
              · have b107 : (la p1.toNatClampNeg).toInt ≠ (la p3.toNatClampNeg).toInt := hw_ine c45
                refine lv_bipush (v := (-15)) hx hb dX11_copy_59 (by decide) ?_
                exact hw_iretM (v := (-15)) hx hb hr hlocks hQ hS rfl (Or.inr (Or.inr (Or.inl ⟨rfl, hH, (by first | exact hRK | (subst_vars; exact hRK)), vx, vq, (by first | rfl | trivial | assumption | omega | (intros; first | rfl | assumption | omega | (exfalso; omega))), (by first | rfl | trivial | assumption | omega | (intros; first | rfl | assumption | omega | (exfalso; omega))), (by first | rfl | trivial | assumption | omega | (intros; first | rfl | assumption | omega | (exfalso; omega))), (by first | rfl | trivial | assumption | omega | (intros; first | rfl | assumption | omega | (exfalso; omega))), (by first | rfl | trivial | assumption | omega | (intros; first | rfl | assumption | omega | (exfalso; omega)))⟩))) dX11_copy_61
            · exact absurd c44 (by decide)

set_option maxHeartbeats 4000000 in
set_option maxRecDepth 100000 in
theorem k_X11_drop (l : Launch) (D : hw_D) (G : Nat → Nat) (h0 : Nat) (p1 : Int32) (sz : Nat) (la : Nat → Int32) (sz9 : Nat → Int32) (rx : Nat → Nat) (pn_x pc_x ks_x sc_x : Int32) (fq : Nat → Option Nat) (G0 : G h0 = 1) (Rx : hw_RX G rx) (gsc_x : 0 ≤ sc_x.toInt ∧ sc_x.toInt ≤ 6) (qq : ∀ j, j < 4 → ∃ b, fq j = some b ∧ G b = 6) : Met l yX11_drop wsX11_drop ({ frames := 1, cells := 0, slots := 0, locals := 21 } : Room) (hw_PC D G [.ref h0, .int p1] sz (fun H => va_at D.1 vwCl (h0, .inr (10, hw_LX rx pn_x pc_x ks_x sc_x)) H ∧ va_at D.1 vwCl ((rx 13), .inl (D.2.1 7, 4, .inr (.inr (.inr (.inr fq))))) H ∧ hw_Racks D G fq la sz9 H)) (hw_QM (fun v H => (v = some (.int (-2)) ∧ hw_HT D G H ∧ hw_Racks D G fq la sz9 H ∧ va_at D.1 vwCl (h0, .inr (10, hw_LX rx pn_x pc_x ks_x sc_x)) H ∧ va_at D.1 vwCl ((rx 13), .inl (D.2.1 7, 4, .inr (.inr (.inr (.inr fq))))) H ∧ ((p1.toInt < 0 ∨ 3 < p1.toInt))) ∨ (v = some (.int (-11)) ∧ hw_HT D G H ∧ hw_Racks D G fq la sz9 H ∧ va_at D.1 vwCl (h0, .inr (10, hw_LX rx pn_x pc_x ks_x sc_x)) H ∧ va_at D.1 vwCl ((rx 13), .inl (D.2.1 7, 4, .inr (.inr (.inr (.inr fq))))) H ∧ ((0 ≤ p1.toInt ∧ p1.toInt ≤ 3)) ∧ (la p1.toNatClampNeg).toInt = -1) ∨ (∃ (r : Int32), v = some (.int r) ∧ hw_HT D G H ∧ hw_Racks D G fq (va_up la p1.toNatClampNeg (-1)) (va_up sz9 p1.toNatClampNeg (sz9 p1.toNatClampNeg)) H ∧ va_at D.1 vwCl (h0, .inr (10, hw_LX rx pn_x pc_x ks_x sc_x)) H ∧ va_at D.1 vwCl ((rx 13), .inl (D.2.1 7, 4, .inr (.inr (.inr (.inr fq))))) H ∧ ((0 ≤ p1.toInt ∧ p1.toInt ≤ 3)) ∧ (la p1.toNatClampNeg).toInt ≠ -1 ∧ r = sz9 p1.toNatClampNeg)) (hw_AW G [6] sz)) 0 0 (hw_AW G [6] sz) := by
  refine hw_met (cc := cX11_drop) (maxL := 3) (ret := (some .int)) (plainFor_of_name (by decide)) rfl (Nat.le_of_ble_eq_true rfl) ?_
  intro p e s m args below meth c QQ ls hsz hx hb hml hr hts hown hlocks hnm hH hK hST hF hQ hl
  subst hsz
  have hS : va_S (hw_AW G [6] s.heap.size) s.heap s.heap [] := va_S.rf
  obtain ⟨vx, vq, hRK⟩ := hF
  have hl : lv_has ls 3 [(0, .ref h0), (1, .int p1)] := hl
  have u_6 : ∀ w ∈ u_ws RX7 TX7 3, w.before args s = true := fun w hw => hts w ((by decide +kernel : ∀ w ∈ u_ws RX7 TX7 3, w ∈ wsX11_drop) w hw)
  have fp_313_6 : hw_FP s args m 313 6 1 false .int := ⟨RX11, "WardWalkers$Rack", RX7, TX7, 3, tyX7, u_6, hown, rfl, by decide, (hts (.fieldLink RX11 313 "WardWalkers$Rack" "lane" "I") (by decide +kernel)), (fun _ h9 => h9), tyX7_ok, nmX7, rfl, (fun h => by cases h), by decide +kernel⟩
  have fg_343_6 : hw_FG s args m 343 6 2 := ⟨RX11, "WardWalkers$Rack", RX7, TX7, 3, u_6, hown, rfl, by decide, (hts (.fieldLink RX11 343 "WardWalkers$Rack" "size" "I") (by decide +kernel)), (fun _ h9 => h9)⟩
  refine lv_aload_n hx hb dX11_drop_0 rfl (lv_at hl 0 rfl) ?_
  refine lv_iload_n hx hb dX11_drop_1 rfl (lv_at hl 1 rfl) ?_
  refine hw_cR (va_runV (As := [.int p1]) (rest := []) ⟨hx, hb, hml, hown, hts⟩ (k_X11_rackAt l D G h0 p1 _ rx pn_x pc_x ks_x sc_x fq G0 Rx ⟨by first | decide | omega, by first | decide | omega⟩ qq) (cwV 1 hts gX11_drop_X11_rackAt rfl rfl rfl (by decide +kernel) ⟨Nat.le_of_ble_eq_true rfl, Nat.le_of_ble_eq_true rfl⟩) (hw_pV (hw_rc (q := (RX11, TX11, 14)) hK vx rfl) hH hK hST hS (by decide) (fun _ h => Or.inl h) ⟨vx, vq⟩) rfl rfl hl.1 rfl (lv_room (Nat.le_of_ble_eq_true rfl)) dX11_drop_2 ⟨Nat.le_of_ble_eq_true rfl, Nat.le_of_ble_eq_true rfl⟩) (fun v hp => ?_)
  rcases hp with ⟨rfl, q1⟩ | ⟨b2, rfl, k3, q4, q5⟩
  · refine lv_astore_nN (lv' := [(2, .null), (0, .ref h0), (1, .int p1)]) hx hb dX11_drop_5 rfl hl (by decide) rfl (fun ls hl => ?_)
    refine lv_aload_nN hx hb dX11_drop_6 rfl (lv_at hl 0 rfl) ?_
    refine lv_ifnonnullN hx hb dX11_drop_7 ?_
    refine lv_bipush (v := (-2)) hx hb dX11_drop_10 (by decide) ?_
    exact hw_iretM (v := (-2)) hx hb hr hlocks hQ hS rfl (Or.inl ⟨rfl, hH, (by first | exact hRK | (subst_vars; exact hRK)), vx, vq, (by first | rfl | trivial | assumption | omega | (intros; first | rfl | assumption | omega | (exfalso; omega)))⟩) dX11_drop_12
  · obtain ⟨a6, r7, e8, k9, R10, v11⟩ := hRK.2 _ (hw_i4 q4)
    have e12 : a6 = b2 := Option.some.inj (e8.symm.trans q5)
    rw [e12] at k9 v11
    refine lv_astore_n (lv' := [(2, .ref b2), (0, .ref h0), (1, .int p1)]) hx hb dX11_drop_5 rfl hl (by decide) rfl (fun ls hl => ?_)
    refine lv_aload_n hx hb dX11_drop_6 rfl (lv_at hl 0 rfl) ?_
    refine lv_ifnonnull (tgt := 13) hx hb dX11_drop_7 (by decide) ?_
    refine lv_aload_n hx hb dX11_drop_13 rfl (lv_at hl 0 rfl) ?_
    refine hw_cR (va_runV (As := []) (rest := []) ⟨hx, hb, hml, hown, hts⟩ (k_X7_isMissing l D G b2 _ r7 (la p1.toNatClampNeg) (sz9 p1.toNatClampNeg) k3 R10) (cwV 0 hts gX11_drop_X7_isMissing rfl rfl rfl (by decide +kernel) ⟨Nat.le_of_ble_eq_true rfl, Nat.le_of_ble_eq_true rfl⟩) (hw_pV (hw_rc (q := (RX7, TX7, 3)) hK v11 rfl) hH hK hST hS (by decide) (fun _ h => Or.inl h) v11) rfl rfl hl.1 rfl (lv_room (Nat.le_of_ble_eq_true rfl)) dX11_drop_14 ⟨Nat.le_of_ble_eq_true rfl, Nat.le_of_ble_eq_true rfl⟩) (fun v hp => ?_)
    rcases hp with ⟨rfl, q13⟩ | ⟨rfl, q14⟩
    · refine lv_if_eq (tgt := 23) hx hb dX11_drop_17 (by decide) (fun c15 => ?_) (fun c15 => ?_)
      · exact absurd c15 (by decide)
      · refine lv_bipush (v := (-11)) hx hb dX11_drop_20 (by decide) ?_
        exact hw_iretM (v := (-11)) hx hb hr hlocks hQ hS rfl (Or.inr (Or.inl ⟨rfl, hH, (by first | exact hRK | (subst_vars; exact hRK)), vx, vq, (by first | rfl | trivial | assumption | omega | (intros; first | rfl | assumption | omega | (exfalso; omega))), (by first | rfl | trivial | assumption | omega | (intros; first | rfl | assumption | omega | (exfalso; omega)))⟩)) dX11_drop_22
    · refine lv_if_eq (tgt := 23) hx hb dX11_drop_17 (by decide) (fun c16 => ?_) (fun c16 => ?_)
      · refine lv_aload_n hx hb dX11_drop_23 rfl (lv_at hl 0 rfl) ?_
        refine lv_iconst (v := (-1)) hx hb dX11_drop_24 (by decide) ?_
        refine hw_put (v := .int (-1)) (fs' := hw_LK r7 (-1) (sz9 p1.toNatClampNeg)) hx hb fp_313_6 hK hH v11 (Nat.le_of_ble_eq_true rfl) rfl rfl rfl (fun _ => by rw [k3]; exact ⟨r7, (-1), (sz9 p1.toNatClampNeg), rfl, R10⟩) hS (hw_AWi k3 (by decide)) dX11_drop_25 (fun H locs hH v11 oq hz hS => ?_)
        have hRK := hw_Racks.set hRK (hw_i4 q4) q5 k9 R10 v11 (fun q9 h9 _ _ => oq q9 h9)
        have vx := va_at.kept vx (oq _ (hw_ne G0 k3 (by decide)))
        have vq := va_at.kept vq (oq _ (hw_ne (hw_RX_13 Rx) k3 (by decide)))
        refine lv_aload_n hx hb dX11_drop_28 rfl (lv_at hl 0 rfl) ?_
        refine hw_get hx hb fg_343_6 hK v11 rfl dX11_drop_29 ?_
        exact hw_iretM (v := (sz9 p1.toNatClampNeg)) hx hb hr hlocks hQ hS rfl (Or.inr (Or.inr (⟨(sz9 p1.toNatClampNeg), rfl, hH, (by first | exact hRK | (subst_vars; exact hRK)), vx, vq, (by first | rfl | trivial | assumption | omega | (intros; first | rfl | assumption | omega | (exfalso; omega))), (by first | rfl | trivial | assumption | omega | (intros; first | rfl | assumption | omega | (exfalso; omega))), (by first | rfl | trivial | assumption | omega | (intros; first | rfl | assumption | omega | (exfalso; omega)))⟩))) dX11_drop_32
      · exact absurd c16 (by decide)

set_option maxHeartbeats 4000000 in
set_option maxRecDepth 100000 in
theorem k_X11_commonOf (l : Launch) (D : hw_D) (G : Nat → Nat) (p1 : Int64) (p2 : Int64) (sz : Nat) : Met l yX11_commonOf wsX11_commonOf ({ frames := 0, cells := 0, slots := 0, locals := 0 } : Room) (hw_PC D G [.long p1, .long p2] sz (fun H => True)) (hw_QR (fun v => ∃ (r : Int64), v = .long r)) 0 0 (fun _ => False) := by
  refine hw_met (cc := cX11_commonOf) (maxL := 11) (ret := (some .long)) (plainFor_of_name (by decide)) rfl (Nat.le_of_ble_eq_true rfl) ?_
  intro p e s m args below meth c QQ ls hsz hx hb hml hr hts hown hlocks hnm hH hK hST hF hQ hl
  subst hsz
  have hS : va_S (hw_AW G [] s.heap.size) s.heap s.heap [] := va_S.rf
  have hl : lv_has ls 11 [(0, .long p1), (2, .long p2)] := hl
  refine lv_lload_n hx hb dX11_commonOf_0 rfl (lv_at hl 0 rfl) ?_
  refine lv_lstore (lv' := [(4, .long p1), (0, .long p1), (2, .long p2)]) hx hb dX11_commonOf_1 hl (by decide) rfl (fun ls hl => ?_)
  refine lv_lload_n hx hb dX11_commonOf_3 rfl (lv_at hl 2 rfl) ?_
  refine lv_lstore (lv' := [(6, .long p2), (4, .long p1), (0, .long p1), (2, .long p2)]) hx hb dX11_commonOf_4 hl (by decide) rfl (fun ls hl => ?_)
  refine lv_iconst (v := 0) hx hb dX11_commonOf_6 (by decide) ?_
  refine lv_istore (lv' := [(8, .int 0), (6, .long p2), (4, .long p1), (0, .long p1), (2, .long p2)]) hx hb dX11_commonOf_7 hl (by decide) rfl (fun ls hl => ?_)
  have L9 : ∀ (n5 : Nat) (y8_1 : Int32) (y6_2 : Int64) (y4_3 : Int64) (hm : (200 - y8_1.toInt).toNat < n5) (g4 : 0 ≤ y8_1.toInt ∧ y8_1.toInt ≤ 200) (ls : Array Slot) (hl : lv_has ls 11 [(8, .int y8_1), (6, .long y6_2), (4, .long y4_3), (0, .long p1), (2, .long p2)]), W p l e ({ frames := 0, cells := 0, slots := 0, locals := 0 } : Room) s m args below meth c s.heap [] 0 0 QQ (F0 m 9 ls []) := by
    intro n5
    induction n5 with
    | zero => intro y8_1 y6_2 y4_3 hm; exact absurd hm (Nat.not_lt_zero _)
    | succ n5 ih9 =>
      intro y8_1 y6_2 y4_3 hm g4 ls hl
      refine lv_iload hx hb dX11_commonOf_9 (lv_at hl 0 rfl) ?_
      refine lv_sipush (v := 200) hx hb dX11_commonOf_11 (by decide) ?_
      refine lv_icmp_ge (tgt := 45) hx hb dX11_commonOf_14 (by decide) (fun c6 => ?_) (fun c6 => ?_)
      · have b7 : 200 ≤ y8_1.toInt := hw_ile c6
        refine lv_lload hx hb dX11_commonOf_45 (lv_at hl 2 rfl) ?_
        exact hw_lretR (v := y4_3) hx hb hr hlocks hQ (⟨y4_3, rfl⟩) dX11_commonOf_47
      · have b8 : y8_1.toInt < 200 := hw_inle c6
        refine lv_lload hx hb dX11_commonOf_17 (lv_at hl 1 rfl) ?_
        refine lv_lconst (v := 0) hx hb dX11_commonOf_19 (by decide) ?_
        refine W.lcmp hx hb dX11_commonOf_20 ?_
        refine lv_topi (fun x9 e10 => ?_)
        refine lv_if_eq (tgt := 45) hx hb dX11_commonOf_21 (by decide) (fun c11 => ?_) (fun c11 => ?_)
        · have b12 := hw_cmpeq (e10 ▸ c11)
          refine lv_lload hx hb dX11_commonOf_45 (lv_at hl 2 rfl) ?_
          exact hw_lretR (v := y4_3) hx hb hr hlocks hQ (⟨y4_3, rfl⟩) dX11_commonOf_47
        · have b13 := hw_cmpneq (e10 ▸ c11)
          refine lv_lload hx hb dX11_commonOf_24 (lv_at hl 2 rfl) ?_
          refine lv_lload hx hb dX11_commonOf_26 (lv_at hl 1 rfl) ?_
          refine lv_lrem hx hb dX11_commonOf_28 (by assumption) ?_
          refine lv_topl (fun x14 e15 => ?_)
          refine lv_lstore (lv' := [(9, .long x14), (8, .int y8_1), (6, .long y6_2), (4, .long y4_3), (0, .long p1), (2, .long p2)]) hx hb dX11_commonOf_29 hl (by decide) rfl (fun ls hl => ?_)
          refine lv_lload hx hb dX11_commonOf_31 (lv_at hl 2 rfl) ?_
          refine lv_lstore (lv' := [(4, .long y6_2), (9, .long x14), (8, .int y8_1), (6, .long y6_2), (0, .long p1), (2, .long p2)]) hx hb dX11_commonOf_33 hl (by decide) rfl (fun ls hl => ?_)
          refine lv_lload hx hb dX11_commonOf_35 (lv_at hl 1 rfl) ?_
          refine lv_lstore (lv' := [(6, .long x14), (4, .long y6_2), (9, .long x14), (8, .int y8_1), (0, .long p1), (2, .long p2)]) hx hb dX11_commonOf_37 hl (by decide) rfl (fun ls hl => ?_)
          obtain ⟨x16, e17⟩ : ∃ y : Int32, y = y8_1 + 1 := ⟨_, rfl⟩
          refine lv_iinc (v := x16) (lv' := [(8, .int x16), (6, .long x14), (4, .long y6_2), (9, .long x14), (0, .long p1), (2, .long p2)]) hx hb dX11_commonOf_39 hl (k := 3) rfl (by rw [e17]; rfl) (by decide) rfl (fun ls hl => ?_)
          have t18 : x16.toInt = y8_1.toInt + 1 := by rw [e17]; exact hw_add rfl rfl (by omega) (by omega)
          refine lv_goto (tgt := 9) hx hb dX11_commonOf_42 (by decide) ?_
          exact ih9 x16 x14 y6_2 (by first | omega | omega) ⟨by first | decide | omega, by first | decide | omega⟩ _ (lv_sub hl [0, 1, 2, 4, 5] rfl)
  exact L9 _ 0 p2 p1 (Nat.lt_succ_self _) ⟨by first | decide | omega, by first | decide | omega⟩ _ (lv_sub hl [0, 1, 2, 3, 4] rfl)

set_option maxHeartbeats 4000000 in
set_option maxRecDepth 100000 in
theorem k_X11_lowest (l : Launch) (D : hw_D) (G : Nat → Nat) (p1 : Int64) (p2 : Int64) (p3 : Int32) (sz : Nat) : Met l yX11_lowest wsX11_lowest ({ frames := 1, cells := 0, slots := 0, locals := 30 } : Room) (hw_PC D G [.long p1, .long p2, .int p3] sz (fun H => True)) (hw_QR (fun v => ∃ (r : Int64), v = .long r)) 0 0 (fun _ => False) := by
  refine hw_met (cc := cX11_lowest) (maxL := 7) (ret := (some .long)) (plainFor_of_name (by decide)) rfl (Nat.le_of_ble_eq_true rfl) ?_
  intro p e s m args below meth c QQ ls hsz hx hb hml hr hts hown hlocks hnm hH hK hST hF hQ hl
  subst hsz
  have hS : va_S (hw_AW G [] s.heap.size) s.heap s.heap [] := va_S.rf
  have hl : lv_has ls 7 [(0, .long p1), (2, .long p2), (4, .int p3)] := hl
  refine lv_lload_n hx hb dX11_lowest_0 rfl (lv_at hl 0 rfl) ?_
  refine va_mabs_long hx hb (hml.trans hl.1.symm) hown (hts (.methodLink RX11 423 Lib.MathLoose.abs_long.x) (by decide +kernel)) (hts (.static Lib.MathLoose.abs_long.x) (by decide +kernel)) (hts (.initialized "java/lang/Math") (by decide +kernel)) (hts (.code Lib.MathLoose.abs_long.x Lib.MathLoose.abs_long.code 2 (some .long)) (by decide +kernel)) (Nat.le_of_ble_eq_true rfl) (Nat.le_of_ble_eq_true rfl) (Nat.le_of_ble_eq_true rfl) (Nat.le_of_ble_eq_true rfl) dX11_lowest_1 ?_
  refine lv_topl (fun x1 e2 => ?_)
  refine lv_lload_n hx hb dX11_lowest_4 rfl (lv_at hl 1 rfl) ?_
  refine hw_cR (va_runS (As := [.long x1, .long p2]) (rest := []) ⟨hx, hb, hml, hown, hts⟩ (k_X11_commonOf l D G x1 p2 _) (va_cwS 2 hts gX11_lowest_X11_commonOf rfl rfl rfl (by decide +kernel) ⟨Nat.le_of_ble_eq_true rfl, Nat.le_of_ble_eq_true rfl⟩) (hw_pS hH hK hST hS (by decide) (fun _ h => Or.inl h) trivial) rfl rfl hl.1 rfl (lv_room (Nat.le_of_ble_eq_true rfl)) dX11_lowest_5 ⟨Nat.le_of_ble_eq_true rfl, Nat.le_of_ble_eq_true rfl⟩) (fun v hp => ?_)
  obtain ⟨x3, rfl⟩ := hp
  refine lv_lstore (lv' := [(5, .long x3), (0, .long p1), (2, .long p2), (4, .int p3)]) hx hb dX11_lowest_8 hl (by decide) rfl (fun ls hl => ?_)
  refine lv_lload hx hb dX11_lowest_10 (lv_at hl 0 rfl) ?_
  refine lv_lconst (v := 0) hx hb dX11_lowest_12 (by decide) ?_
  refine W.lcmp hx hb dX11_lowest_13 ?_
  refine lv_topi (fun x4 e5 => ?_)
  refine lv_if_gt (tgt := 19) hx hb dX11_lowest_14 (by decide) (fun c6 => ?_) (fun c6 => ?_)
  · have b7 := hw_cmpgt (e5 ▸ c6)
    have b9x : (0 : Int64) < x3 := by assumption
    refine lv_iload hx hb dX11_lowest_19 (lv_at hl 3 rfl) ?_
    refine lv_if_ne (tgt := 31) hx hb dX11_lowest_21 (by decide) (fun c8 => ?_) (fun c8 => ?_)
    · have b9 : p3.toInt ≠ 0 := hw_ine c8
      refine lv_lload_n hx hb dX11_lowest_31 rfl (lv_at hl 2 rfl) ?_
      refine lv_lload hx hb dX11_lowest_32 (lv_at hl 0 rfl) ?_
      refine lv_ldiv hx hb dX11_lowest_34 (fun h9 => by rw [h9] at b9x; exact absurd b9x (by decide)) ?_
      refine lv_topl (fun x10 e11 => ?_)
      exact hw_lretR (v := x10) hx hb hr hlocks hQ (⟨x10, rfl⟩) dX11_lowest_35
    · have b12 : p3.toInt = 0 := hw_ieq c8
      refine lv_lload_n hx hb dX11_lowest_24 rfl (lv_at hl 1 rfl) ?_
      refine lv_lload hx hb dX11_lowest_25 (lv_at hl 0 rfl) ?_
      refine lv_ldiv hx hb dX11_lowest_27 (fun h9 => by rw [h9] at b9x; exact absurd b9x (by decide)) ?_
      refine lv_topl (fun x13 e14 => ?_)
      refine lv_goto (tgt := 35) hx hb dX11_lowest_28 (by decide) ?_
      exact hw_lretR (v := x13) hx hb hr hlocks hQ (⟨x13, rfl⟩) dX11_lowest_35
  · have b15 := hw_cmpngt (e5 ▸ c6)
    refine lv_lconst (v := 0) hx hb dX11_lowest_17 (by decide) ?_
    exact hw_lretR (v := 0) hx hb hr hlocks hQ (⟨0, rfl⟩) dX11_lowest_18

set_option maxHeartbeats 4000000 in
set_option maxRecDepth 100000 in
theorem k_X11_share (l : Launch) (D : hw_D) (G : Nat → Nat) (h0 : Nat) (p1 : Int32) (p2 : Int32) (sz : Nat) (la : Nat → Int32) (sz9 : Nat → Int32) (rx : Nat → Nat) (pn_x pc_x ks_x sc_x : Int32) (fq : Nat → Option Nat) (G0 : G h0 = 1) (Rx : hw_RX G rx) (gsc_x : 0 ≤ sc_x.toInt ∧ sc_x.toInt ≤ 6) (qq : ∀ j, j < 4 → ∃ b, fq j = some b ∧ G b = 6) : Met l yX11_share wsX11_share ({ frames := 2, cells := 0, slots := 0, locals := 56 } : Room) (hw_PC D G [.ref h0, .int p1, .int p2] sz (fun H => va_at D.1 vwCl (h0, .inr (10, hw_LX rx pn_x pc_x ks_x sc_x)) H ∧ va_at D.1 vwCl ((rx 13), .inl (D.2.1 7, 4, .inr (.inr (.inr (.inr fq))))) H ∧ hw_Racks D G fq la sz9 H)) (hw_QR (fun v => (v = .long (-2) ∧ ((p1.toInt < 0 ∨ 3 < p1.toInt))) ∨ (v = .long (-3) ∧ ((0 ≤ p1.toInt ∧ p1.toInt ≤ 3)) ∧ (p2.toInt < 0 ∨ 1 < p2.toInt)) ∨ (v = .long (-11) ∧ ((0 ≤ p1.toInt ∧ p1.toInt ≤ 3)) ∧ (0 ≤ p2.toInt ∧ p2.toInt ≤ 1) ∧ (la p1.toNatClampNeg).toInt = -1) ∨ (v = .long (-12) ∧ ((0 ≤ p1.toInt ∧ p1.toInt ≤ 3)) ∧ (0 ≤ p2.toInt ∧ p2.toInt ≤ 1) ∧ (la p1.toNatClampNeg).toInt ≠ -1 ∧ (la p1.toNatClampNeg).toInt ≠ 2) ∨ (v = .long (-16) ∧ ((0 ≤ p1.toInt ∧ p1.toInt ≤ 3)) ∧ (0 ≤ p2.toInt ∧ p2.toInt ≤ 1) ∧ (la p1.toNatClampNeg).toInt = 2 ∧ (sz9 p1.toNatClampNeg).toInt = 0) ∨ (∃ (r : Int64), v = .long r ∧ ((0 ≤ p1.toInt ∧ p1.toInt ≤ 3)) ∧ (0 ≤ p2.toInt ∧ p2.toInt ≤ 1) ∧ (la p1.toNatClampNeg).toInt = 2 ∧ (sz9 p1.toNatClampNeg).toInt ≠ 0))) 0 0 (fun _ => False) := by
  refine hw_met (cc := cX11_share) (maxL := 6) (ret := (some .long)) (plainFor_of_name (by decide)) rfl (Nat.le_of_ble_eq_true rfl) ?_
  intro p e s m args below meth c QQ ls hsz hx hb hml hr hts hown hlocks hnm hH hK hST hF hQ hl
  subst hsz
  have hS : va_S (hw_AW G [] s.heap.size) s.heap s.heap [] := va_S.rf
  obtain ⟨vx, vq, hRK⟩ := hF
  have hl : lv_has ls 6 [(0, .ref h0), (1, .int p1), (2, .int p2)] := hl
  have u_6 : ∀ w ∈ u_ws RX7 TX7 3, w.before args s = true := fun w hw => hts w ((by decide +kernel : ∀ w ∈ u_ws RX7 TX7 3, w ∈ wsX11_share) w hw)
  have fg_313_6 : hw_FG s args m 313 6 1 := ⟨RX11, "WardWalkers$Rack", RX7, TX7, 3, u_6, hown, rfl, by decide, (hts (.fieldLink RX11 313 "WardWalkers$Rack" "lane" "I") (by decide +kernel)), (fun _ h9 => h9)⟩
  have fg_343_6 : hw_FG s args m 343 6 2 := ⟨RX11, "WardWalkers$Rack", RX7, TX7, 3, u_6, hown, rfl, by decide, (hts (.fieldLink RX11 343 "WardWalkers$Rack" "size" "I") (by decide +kernel)), (fun _ h9 => h9)⟩
  refine lv_aload_n hx hb dX11_share_0 rfl (lv_at hl 0 rfl) ?_
  refine lv_iload_n hx hb dX11_share_1 rfl (lv_at hl 1 rfl) ?_
  refine hw_cR (va_runV (As := [.int p1]) (rest := []) ⟨hx, hb, hml, hown, hts⟩ (k_X11_rackAt l D G h0 p1 _ rx pn_x pc_x ks_x sc_x fq G0 Rx ⟨by first | decide | omega, by first | decide | omega⟩ qq) (cwV 1 hts gX11_share_X11_rackAt rfl rfl rfl (by decide +kernel) ⟨Nat.le_of_ble_eq_true rfl, Nat.le_of_ble_eq_true rfl⟩) (hw_pV (hw_rc (q := (RX11, TX11, 14)) hK vx rfl) hH hK hST hS (by decide) (fun _ h => Or.inl h) ⟨vx, vq⟩) rfl rfl hl.1 rfl (lv_room (Nat.le_of_ble_eq_true rfl)) dX11_share_2 ⟨Nat.le_of_ble_eq_true rfl, Nat.le_of_ble_eq_true rfl⟩) (fun v hp => ?_)
  rcases hp with ⟨rfl, q1⟩ | ⟨b2, rfl, k3, q4, q5⟩
  · refine lv_astore_nN (lv' := [(3, .null), (0, .ref h0), (1, .int p1), (2, .int p2)]) hx hb dX11_share_5 rfl hl (by decide) rfl (fun ls hl => ?_)
    refine lv_aload_nN hx hb dX11_share_6 rfl (lv_at hl 0 rfl) ?_
    refine lv_ifnonnullN hx hb dX11_share_7 ?_
    refine lv_ldc2 (v := (-2)) hx hb hown (hts (.constantLong RX11 323 (-2)) (by decide +kernel)) dX11_share_10 ?_
    exact hw_lretR (v := (-2)) hx hb hr hlocks hQ (Or.inl ⟨rfl, (by first | rfl | trivial | assumption | omega | (intros; first | rfl | assumption | omega | (exfalso; omega)))⟩) dX11_share_13
  · obtain ⟨a6, r7, e8, k9, R10, v11⟩ := hRK.2 _ (hw_i4 q4)
    have e12 : a6 = b2 := Option.some.inj (e8.symm.trans q5)
    rw [e12] at k9 v11
    refine lv_astore_n (lv' := [(3, .ref b2), (0, .ref h0), (1, .int p1), (2, .int p2)]) hx hb dX11_share_5 rfl hl (by decide) rfl (fun ls hl => ?_)
    refine lv_aload_n hx hb dX11_share_6 rfl (lv_at hl 0 rfl) ?_
    refine lv_ifnonnull (tgt := 14) hx hb dX11_share_7 (by decide) ?_
    refine lv_iload_n hx hb dX11_share_14 rfl (lv_at hl 3 rfl) ?_
    refine lv_if_lt (tgt := 23) hx hb dX11_share_15 (by decide) (fun c13 => ?_) (fun c13 => ?_)
    · have b14 : p2.toInt < 0 := hw_ilt c13
      refine lv_ldc2 (v := (-3)) hx hb hown (hts (.constantLong RX11 346 (-3)) (by decide +kernel)) dX11_share_23 ?_
      exact hw_lretR (v := (-3)) hx hb hr hlocks hQ (Or.inr (Or.inl ⟨rfl, (by first | rfl | trivial | assumption | omega | (intros; first | rfl | assumption | omega | (exfalso; omega))), (by first | rfl | trivial | assumption | omega | (intros; first | rfl | assumption | omega | (exfalso; omega)))⟩)) dX11_share_26
    · have b15 : 0 ≤ p2.toInt := hw_inlt c13
      refine lv_iload_n hx hb dX11_share_18 rfl (lv_at hl 3 rfl) ?_
      refine lv_iconst (v := 1) hx hb dX11_share_19 (by decide) ?_
      refine lv_icmp_le (tgt := 27) hx hb dX11_share_20 (by decide) (fun c16 => ?_) (fun c16 => ?_)
      · have b17 : p2.toInt ≤ 1 := hw_ile c16
        refine lv_aload_n hx hb dX11_share_27 rfl (lv_at hl 0 rfl) ?_
        refine hw_cR (va_runV (As := []) (rest := []) ⟨hx, hb, hml, hown, hts⟩ (k_X7_isMissing l D G b2 _ r7 (la p1.toNatClampNeg) (sz9 p1.toNatClampNeg) k3 R10) (cwV 0 hts gX11_share_X7_isMissing rfl rfl rfl (by decide +kernel) ⟨Nat.le_of_ble_eq_true rfl, Nat.le_of_ble_eq_true rfl⟩) (hw_pV (hw_rc (q := (RX7, TX7, 3)) hK v11 rfl) hH hK hST hS (by decide) (fun _ h => Or.inl h) v11) rfl rfl hl.1 rfl (lv_room (Nat.le_of_ble_eq_true rfl)) dX11_share_28 ⟨Nat.le_of_ble_eq_true rfl, Nat.le_of_ble_eq_true rfl⟩) (fun v hp => ?_)
        rcases hp with ⟨rfl, q18⟩ | ⟨rfl, q19⟩
        · refine lv_if_eq (tgt := 38) hx hb dX11_share_31 (by decide) (fun c20 => ?_) (fun c20 => ?_)
          · exact absurd c20 (by decide)
          · refine lv_ldc2 (v := (-11)) hx hb hown (hts (.constantLong RX11 325 (-11)) (by decide +kernel)) dX11_share_34 ?_
            exact hw_lretR (v := (-11)) hx hb hr hlocks hQ (Or.inr (Or.inr (Or.inl ⟨rfl, (by first | rfl | trivial | assumption | omega | (intros; first | rfl | assumption | omega | (exfalso; omega))), (by first | rfl | trivial | assumption | omega | (intros; first | rfl | assumption | omega | (exfalso; omega))), (by first | rfl | trivial | assumption | omega | (intros; first | rfl | assumption | omega | (exfalso; omega)))⟩))) dX11_share_37
        · refine lv_if_eq (tgt := 38) hx hb dX11_share_31 (by decide) (fun c21 => ?_) (fun c21 => ?_)
          · refine lv_aload_n hx hb dX11_share_38 rfl (lv_at hl 0 rfl) ?_
            refine hw_get hx hb fg_313_6 hK v11 rfl dX11_share_39 ?_
            refine lv_iconst (v := 2) hx hb dX11_share_42 (by decide) ?_
            refine lv_icmp_eq (tgt := 50) hx hb dX11_share_43 (by decide) (fun c22 => ?_) (fun c22 => ?_)
            · have b23 : (la p1.toNatClampNeg).toInt = 2 := hw_ieq c22
              refine lv_aload_n hx hb dX11_share_50 rfl (lv_at hl 0 rfl) ?_
              refine hw_get hx hb fg_343_6 hK v11 rfl dX11_share_51 ?_
              refine lv_if_ne (tgt := 61) hx hb dX11_share_54 (by decide) (fun c24 => ?_) (fun c24 => ?_)
              · have b25 : (sz9 p1.toNatClampNeg).toInt ≠ 0 := hw_ine c24
                refine lv_aload_n hx hb dX11_share_61 rfl (lv_at hl 0 rfl) ?_
                refine hw_cR (va_runV (As := []) (rest := []) ⟨hx, hb, hml, hown, hts⟩ (k_X7_together l D G b2 _ k3) (cwV 0 hts gX11_share_X7_together rfl rfl rfl (by decide +kernel) ⟨Nat.le_of_ble_eq_true rfl, Nat.le_of_ble_eq_true rfl⟩) (hw_pV (hw_rc (q := (RX7, TX7, 3)) hK v11 rfl) hH hK hST hS (by decide) (fun _ h => Or.inl h) trivial) rfl rfl hl.1 rfl (lv_room (Nat.le_of_ble_eq_true rfl)) dX11_share_62 ⟨Nat.le_of_ble_eq_true rfl, Nat.le_of_ble_eq_true rfl⟩) (fun v hp => ?_)
                obtain ⟨x26, rfl⟩ := hp
                refine lv_aload_n hx hb dX11_share_65 rfl (lv_at hl 0 rfl) ?_
                refine hw_get hx hb fg_343_6 hK v11 rfl dX11_share_66 ?_
                refine lv_i2l hx hb dX11_share_69 rfl ?_
                refine lv_topl (fun x27 e28 => ?_)
                refine lv_iload_n hx hb dX11_share_70 rfl (lv_at hl 3 rfl) ?_
                refine hw_cR (va_runS (As := [.long x26, .long x27, .int p2]) (rest := []) ⟨hx, hb, hml, hown, hts⟩ (k_X11_lowest l D G x26 x27 p2 _) (va_cwS 3 hts gX11_share_X11_lowest rfl rfl rfl (by decide +kernel) ⟨Nat.le_of_ble_eq_true rfl, Nat.le_of_ble_eq_true rfl⟩) (hw_pS hH hK hST hS (by decide) (fun _ h => Or.inl h) trivial) rfl rfl hl.1 rfl (lv_room (Nat.le_of_ble_eq_true rfl)) dX11_share_71 ⟨Nat.le_of_ble_eq_true rfl, Nat.le_of_ble_eq_true rfl⟩) (fun v hp => ?_)
                obtain ⟨x29, rfl⟩ := hp
                refine lv_lstore (lv' := [(4, .long x29), (3, .ref b2), (0, .ref h0), (1, .int p1), (2, .int p2)]) hx hb dX11_share_74 hl (by decide) rfl (fun ls hl => ?_)
                refine lv_iload_n hx hb dX11_share_76 rfl (lv_at hl 4 rfl) ?_
                refine lv_if_ne (tgt := 89) hx hb dX11_share_77 (by decide) (fun c30 => ?_) (fun c30 => ?_)
                · have b31 : p2.toInt ≠ 0 := hw_ine c30
                  refine lv_lload hx hb dX11_share_89 (lv_at hl 0 rfl) ?_
                  exact hw_lretR (v := x29) hx hb hr hlocks hQ (Or.inr (Or.inr (Or.inr (Or.inr (Or.inr (⟨x29, rfl, (by first | rfl | trivial | assumption | omega | (intros; first | rfl | assumption | omega | (exfalso; omega))), (by first | rfl | trivial | assumption | omega | (intros; first | rfl | assumption | omega | (exfalso; omega))), (by first | rfl | trivial | assumption | omega | (intros; first | rfl | assumption | omega | (exfalso; omega))), (by first | rfl | trivial | assumption | omega | (intros; first | rfl | assumption | omega | (exfalso; omega)))⟩)))))) dX11_share_91
                · have b32 : p2.toInt = 0 := hw_ieq c30
                  refine lv_lload hx hb dX11_share_80 (lv_at hl 0 rfl) ?_
                  refine lv_ldc2 (v := 100000000000) hx hb hown (hts (.constantLong RX11 356 (100000000000)) (by decide +kernel)) dX11_share_82 ?_
                  refine lv_ladd hx hb dX11_share_85  ?_
                  refine lv_topl (fun x33 e34 => ?_)
                  refine lv_goto (tgt := 91) hx hb dX11_share_86 (by decide) ?_
                  exact hw_lretR (v := x33) hx hb hr hlocks hQ (Or.inr (Or.inr (Or.inr (Or.inr (Or.inr (⟨x33, rfl, (by first | rfl | trivial | assumption | omega | (intros; first | rfl | assumption | omega | (exfalso; omega))), (by first | rfl | trivial | assumption | omega | (intros; first | rfl | assumption | omega | (exfalso; omega))), (by first | rfl | trivial | assumption | omega | (intros; first | rfl | assumption | omega | (exfalso; omega))), (by first | rfl | trivial | assumption | omega | (intros; first | rfl | assumption | omega | (exfalso; omega)))⟩)))))) dX11_share_91
              · have b35 : (sz9 p1.toNatClampNeg).toInt = 0 := hw_ieq c24
                refine lv_ldc2 (v := (-16)) hx hb hown (hts (.constantLong RX11 350 (-16)) (by decide +kernel)) dX11_share_57 ?_
                exact hw_lretR (v := (-16)) hx hb hr hlocks hQ (Or.inr (Or.inr (Or.inr (Or.inr (Or.inl ⟨rfl, (by first | rfl | trivial | assumption | omega | (intros; first | rfl | assumption | omega | (exfalso; omega))), (by first | rfl | trivial | assumption | omega | (intros; first | rfl | assumption | omega | (exfalso; omega))), (by first | rfl | trivial | assumption | omega | (intros; first | rfl | assumption | omega | (exfalso; omega))), (by first | rfl | trivial | assumption | omega | (intros; first | rfl | assumption | omega | (exfalso; omega)))⟩))))) dX11_share_60
            · have b36 : (la p1.toNatClampNeg).toInt ≠ 2 := hw_ine c22
              refine lv_ldc2 (v := (-12)) hx hb hown (hts (.constantLong RX11 348 (-12)) (by decide +kernel)) dX11_share_46 ?_
              exact hw_lretR (v := (-12)) hx hb hr hlocks hQ (Or.inr (Or.inr (Or.inr (Or.inl ⟨rfl, (by first | rfl | trivial | assumption | omega | (intros; first | rfl | assumption | omega | (exfalso; omega))), (by first | rfl | trivial | assumption | omega | (intros; first | rfl | assumption | omega | (exfalso; omega))), (by first | rfl | trivial | assumption | omega | (intros; first | rfl | assumption | omega | (exfalso; omega))), (by first | rfl | trivial | assumption | omega | (intros; first | rfl | assumption | omega | (exfalso; omega)))⟩)))) dX11_share_49
          · exact absurd c21 (by decide)
      · have b37 : 1 < p2.toInt := hw_inle c16
        refine lv_ldc2 (v := (-3)) hx hb hown (hts (.constantLong RX11 346 (-3)) (by decide +kernel)) dX11_share_23 ?_
        exact hw_lretR (v := (-3)) hx hb hr hlocks hQ (Or.inr (Or.inl ⟨rfl, (by first | rfl | trivial | assumption | omega | (intros; first | rfl | assumption | omega | (exfalso; omega))), (by first | rfl | trivial | assumption | omega | (intros; first | rfl | assumption | omega | (exfalso; omega)))⟩)) dX11_share_26

set_option maxHeartbeats 4000000 in
set_option maxRecDepth 100000 in
theorem k_X11_film (l : Launch) (D : hw_D) (G : Nat → Nat) (h0 : Nat) (p1 : Int32) (p2 : Int32) (p3 : Int32) (sz : Nat) (la : Nat → Int32) (sz9 : Nat → Int32) (rx : Nat → Nat) (pn_x pc_x ks_x sc_x : Int32) (fq : Nat → Option Nat) (rc : Nat → Nat) (kc_c lc_c wc_c dk_c : Int32) (G0 : G h0 = 1) (Rx : hw_RX G rx) (gsc_x : 0 ≤ sc_x.toInt ∧ sc_x.toInt ≤ 6) (qq : ∀ j, j < 4 → ∃ b, fq j = some b ∧ G b = 6) (Rc : hw_RC G rc) (gkc_c : 0 ≤ kc_c.toInt ∧ kc_c.toInt ≤ 7) (glc_c : 0 ≤ lc_c.toInt ∧ lc_c.toInt ≤ 7) (gwc_c : 0 ≤ wc_c.toInt ∧ wc_c.toInt ≤ 3) : Met l yX11_film wsX11_film ({ frames := 5, cells := 0, slots := 0, locals := 114 } : Room) (hw_PC D G [.ref h0, .int p1, .int p2, .int p3] sz (fun H => va_at D.1 vwCl (h0, .inr (10, hw_LX rx pn_x pc_x ks_x sc_x)) H ∧ va_at D.1 vwCl ((rx 13), .inl (D.2.1 7, 4, .inr (.inr (.inr (.inr fq))))) H ∧ va_at D.1 vwCl ((rx 0), .inr (1, hw_LC rc kc_c lc_c wc_c dk_c)) H ∧ hw_Racks D G fq la sz9 H)) (hw_QM (fun v H => ∃ (r : Int32), v = some (.int r) ∧ hw_HT D G H ∧ hw_Racks D G fq la sz9 H ∧ va_at D.1 vwCl (h0, .inr (10, hw_LX rx pn_x pc_x ks_x sc_x)) H ∧ va_at D.1 vwCl ((rx 13), .inl (D.2.1 7, 4, .inr (.inr (.inr (.inr fq))))) H ∧ va_at D.1 vwCl ((rx 0), .inr (1, hw_LC rc kc_c lc_c wc_c dk_c)) H ∧ (kc_c.toInt = 0 → r.toInt = -2)) (hw_AW G [19] sz)) 0 0 (hw_AW G [19] sz) := by
  refine hw_met (cc := cX11_film) (maxL := 8) (ret := (some .int)) (plainFor_of_name (by decide)) rfl (Nat.le_of_ble_eq_true rfl) ?_
  intro p e s m args below meth c QQ ls hsz hx hb hml hr hts hown hlocks hnm hH hK hST hF hQ hl
  subst hsz
  have hS : va_S (hw_AW G [19] s.heap.size) s.heap s.heap [] := va_S.rf
  obtain ⟨vx, vq, vc, hRK⟩ := hF
  have hl : lv_has ls 8 [(0, .ref h0), (1, .int p1), (2, .int p2), (3, .int p3)] := hl
  have u_10 : ∀ w ∈ u_ws RX11 TX11 14, w.before args s = true := fun w hw => hts w ((by decide +kernel : ∀ w ∈ u_ws RX11 TX11 14, w ∈ wsX11_film) w hw)
  have fg_10_10 : hw_FG s args m 10 10 0 := ⟨RX11, "WardWalkers", RX11, TX11, 14, u_10, hown, rfl, by decide, (hts (.fieldLink RX11 10 "WardWalkers" "country" "LWardWalkers$Country;") (by decide +kernel)), (fun _ h9 => h9)⟩
  have u_6 : ∀ w ∈ u_ws RX7 TX7 3, w.before args s = true := fun w hw => hts w ((by decide +kernel : ∀ w ∈ u_ws RX7 TX7 3, w ∈ wsX11_film) w hw)
  have fg_313_6 : hw_FG s args m 313 6 1 := ⟨RX11, "WardWalkers$Rack", RX7, TX7, 3, u_6, hown, rfl, by decide, (hts (.fieldLink RX11 313 "WardWalkers$Rack" "lane" "I") (by decide +kernel)), (fun _ h9 => h9)⟩
  have u_1 : ∀ w ∈ u_ws RX1 TX1 7, w.before args s = true := fun w hw => hts w ((by decide +kernel : ∀ w ∈ u_ws RX1 TX1 7, w ∈ wsX11_film) w hw)
  have fg_256_1 : hw_FG s args m 256 1 3 := ⟨RX11, "WardWalkers$Country", RX1, TX1, 7, u_1, hown, rfl, by decide, (hts (.fieldLink RX11 256 "WardWalkers$Country" "lockCount" "I") (by decide +kernel)), (fun _ h9 => h9)⟩
  have fg_26_10 : hw_FG s args m 26 10 2 := ⟨RX11, "WardWalkers", RX11, TX11, 14, u_10, hown, rfl, by decide, (hts (.fieldLink RX11 26 "WardWalkers" "now" "LWardWalkers$Standing;") (by decide +kernel)), (fun _ h9 => h9)⟩
  refine lv_aload_n hx hb dX11_film_0 rfl (lv_at hl 0 rfl) ?_
  refine hw_get hx hb fg_10_10 hK vx rfl dX11_film_1 ?_
  refine lv_iload_n hx hb dX11_film_4 rfl (lv_at hl 1 rfl) ?_
  refine hw_cR (va_runV (As := [.int p1]) (rest := []) ⟨hx, hb, hml, hown, hts⟩ (k_X1_keyAt l D G (rx 0) p1 _ rc kc_c lc_c wc_c dk_c (hw_RX_0 Rx) Rc ⟨by first | decide | omega, by first | decide | omega⟩ ⟨by first | decide | omega, by first | decide | omega⟩ ⟨by first | decide | omega, by first | decide | omega⟩) (cwV 1 hts gX11_film_X1_keyAt rfl rfl rfl (by decide +kernel) ⟨Nat.le_of_ble_eq_true rfl, Nat.le_of_ble_eq_true rfl⟩) (hw_pV (hw_rc (q := (RX1, TX1, 7)) hK vc rfl) hH hK hST hS (by decide) (fun _ h => Or.inl h) vc) rfl rfl hl.1 rfl (lv_room (Nat.le_of_ble_eq_true rfl)) dX11_film_5 ⟨Nat.le_of_ble_eq_true rfl, Nat.le_of_ble_eq_true rfl⟩) (fun v hp => ?_)
  rcases hp with rfl | ⟨b1, rfl, k2, q3⟩
  · refine lv_astoreN (lv' := [(4, .null), (0, .ref h0), (1, .int p1), (2, .int p2), (3, .int p3)]) hx hb dX11_film_8 hl (by decide) rfl (fun ls hl => ?_)
    refine lv_aload_n hx hb dX11_film_10 rfl (lv_at hl 1 rfl) ?_
    refine lv_iload_n hx hb dX11_film_11 rfl (lv_at hl 3 rfl) ?_
    refine hw_cR (va_runV (As := [.int p2]) (rest := []) ⟨hx, hb, hml, hown, hts⟩ (k_X11_rackAt l D G h0 p2 _ rx pn_x pc_x ks_x sc_x fq G0 Rx ⟨by first | decide | omega, by first | decide | omega⟩ qq) (cwV 1 hts gX11_film_X11_rackAt rfl rfl rfl (by decide +kernel) ⟨Nat.le_of_ble_eq_true rfl, Nat.le_of_ble_eq_true rfl⟩) (hw_pV (hw_rc (q := (RX11, TX11, 14)) hK vx rfl) hH hK hST hS (by decide) (fun _ h => Or.inl h) ⟨vx, vq⟩) rfl rfl hl.1 rfl (lv_room (Nat.le_of_ble_eq_true rfl)) dX11_film_12 ⟨Nat.le_of_ble_eq_true rfl, Nat.le_of_ble_eq_true rfl⟩) (fun v hp => ?_)
    rcases hp with ⟨rfl, q4⟩ | ⟨b5, rfl, k6, q7, q8⟩
    · refine lv_astoreN (lv' := [(5, .null), (4, .null), (0, .ref h0), (1, .int p1), (2, .int p2), (3, .int p3)]) hx hb dX11_film_15 hl (by decide) rfl (fun ls hl => ?_)
      refine lv_aloadN hx hb dX11_film_17 (lv_at hl 1 rfl) ?_
      refine lv_ifnullN (tgt := 27) hx hb dX11_film_19 (by decide) ?_
      refine lv_bipush (v := (-2)) hx hb dX11_film_27 (by decide) ?_
      exact hw_iretM (v := (-2)) hx hb hr hlocks hQ hS rfl (⟨(-2), rfl, hH, (by first | exact hRK | (subst_vars; exact hRK)), vx, vq, vc, (by first | rfl | trivial | assumption | omega | (intros; first | rfl | assumption | omega | (exfalso; omega)))⟩) dX11_film_29
    · obtain ⟨a9, r10, e11, k12, R13, v14⟩ := hRK.2 _ (hw_i4 q7)
      have e15 : a9 = b5 := Option.some.inj (e11.symm.trans q8)
      rw [e15] at k12 v14
      refine lv_astore (lv' := [(5, .ref b5), (4, .null), (0, .ref h0), (1, .int p1), (2, .int p2), (3, .int p3)]) hx hb dX11_film_15 hl (by decide) rfl (fun ls hl => ?_)
      refine lv_aloadN hx hb dX11_film_17 (lv_at hl 1 rfl) ?_
      refine lv_ifnullN (tgt := 27) hx hb dX11_film_19 (by decide) ?_
      refine lv_bipush (v := (-2)) hx hb dX11_film_27 (by decide) ?_
      exact hw_iretM (v := (-2)) hx hb hr hlocks hQ hS rfl (⟨(-2), rfl, hH, (by first | exact hRK | (subst_vars; exact hRK)), vx, vq, vc, (by first | rfl | trivial | assumption | omega | (intros; first | rfl | assumption | omega | (exfalso; omega)))⟩) dX11_film_29
  · refine lv_astore (lv' := [(4, .ref b1), (0, .ref h0), (1, .int p1), (2, .int p2), (3, .int p3)]) hx hb dX11_film_8 hl (by decide) rfl (fun ls hl => ?_)
    refine lv_aload_n hx hb dX11_film_10 rfl (lv_at hl 1 rfl) ?_
    refine lv_iload_n hx hb dX11_film_11 rfl (lv_at hl 3 rfl) ?_
    refine hw_cR (va_runV (As := [.int p2]) (rest := []) ⟨hx, hb, hml, hown, hts⟩ (k_X11_rackAt l D G h0 p2 _ rx pn_x pc_x ks_x sc_x fq G0 Rx ⟨by first | decide | omega, by first | decide | omega⟩ qq) (cwV 1 hts gX11_film_X11_rackAt rfl rfl rfl (by decide +kernel) ⟨Nat.le_of_ble_eq_true rfl, Nat.le_of_ble_eq_true rfl⟩) (hw_pV (hw_rc (q := (RX11, TX11, 14)) hK vx rfl) hH hK hST hS (by decide) (fun _ h => Or.inl h) ⟨vx, vq⟩) rfl rfl hl.1 rfl (lv_room (Nat.le_of_ble_eq_true rfl)) dX11_film_12 ⟨Nat.le_of_ble_eq_true rfl, Nat.le_of_ble_eq_true rfl⟩) (fun v hp => ?_)
    rcases hp with ⟨rfl, q16⟩ | ⟨b17, rfl, k18, q19, q20⟩
    · refine lv_astoreN (lv' := [(5, .null), (4, .ref b1), (0, .ref h0), (1, .int p1), (2, .int p2), (3, .int p3)]) hx hb dX11_film_15 hl (by decide) rfl (fun ls hl => ?_)
      refine lv_aload hx hb dX11_film_17 (lv_at hl 1 rfl) ?_
      refine lv_ifnull hx hb dX11_film_19 ?_
      refine lv_aloadN hx hb dX11_film_22 (lv_at hl 0 rfl) ?_
      refine lv_ifnonnullN hx hb dX11_film_24 ?_
      refine lv_bipush (v := (-2)) hx hb dX11_film_27 (by decide) ?_
      exact hw_iretM (v := (-2)) hx hb hr hlocks hQ hS rfl (⟨(-2), rfl, hH, (by first | exact hRK | (subst_vars; exact hRK)), vx, vq, vc, (by first | rfl | trivial | assumption | omega | (intros; first | rfl | assumption | omega | (exfalso; omega)))⟩) dX11_film_29
    · obtain ⟨a21, r22, e23, k24, R25, v26⟩ := hRK.2 _ (hw_i4 q19)
      have e27 : a21 = b17 := Option.some.inj (e23.symm.trans q20)
      rw [e27] at k24 v26
      refine lv_astore (lv' := [(5, .ref b17), (4, .ref b1), (0, .ref h0), (1, .int p1), (2, .int p2), (3, .int p3)]) hx hb dX11_film_15 hl (by decide) rfl (fun ls hl => ?_)
      refine lv_aload hx hb dX11_film_17 (lv_at hl 1 rfl) ?_
      refine lv_ifnull hx hb dX11_film_19 ?_
      refine lv_aload hx hb dX11_film_22 (lv_at hl 0 rfl) ?_
      refine lv_ifnonnull (tgt := 30) hx hb dX11_film_24 (by decide) ?_
      refine lv_aload hx hb dX11_film_30 (lv_at hl 0 rfl) ?_
      refine hw_cR (va_runV (As := []) (rest := []) ⟨hx, hb, hml, hown, hts⟩ (k_X7_isMissing l D G b17 _ r22 (la p2.toNatClampNeg) (sz9 p2.toNatClampNeg) k18 R25) (cwV 0 hts gX11_film_X7_isMissing rfl rfl rfl (by decide +kernel) ⟨Nat.le_of_ble_eq_true rfl, Nat.le_of_ble_eq_true rfl⟩) (hw_pV (hw_rc (q := (RX7, TX7, 3)) hK v26 rfl) hH hK hST hS (by decide) (fun _ h => Or.inl h) v26) rfl rfl hl.1 rfl (lv_room (Nat.le_of_ble_eq_true rfl)) dX11_film_32 ⟨Nat.le_of_ble_eq_true rfl, Nat.le_of_ble_eq_true rfl⟩) (fun v hp => ?_)
      rcases hp with ⟨rfl, q28⟩ | ⟨rfl, q29⟩
      · refine lv_if_eq (tgt := 41) hx hb dX11_film_35 (by decide) (fun c30 => ?_) (fun c30 => ?_)
        · exact absurd c30 (by decide)
        · refine lv_bipush (v := (-11)) hx hb dX11_film_38 (by decide) ?_
          exact hw_iretM (v := (-11)) hx hb hr hlocks hQ hS rfl (⟨(-11), rfl, hH, (by first | exact hRK | (subst_vars; exact hRK)), vx, vq, vc, (by first | rfl | trivial | assumption | omega | (intros; first | rfl | assumption | omega | (exfalso; omega)))⟩) dX11_film_40
      · refine lv_if_eq (tgt := 41) hx hb dX11_film_35 (by decide) (fun c31 => ?_) (fun c31 => ?_)
        · refine lv_aload hx hb dX11_film_41 (lv_at hl 0 rfl) ?_
          refine hw_get hx hb fg_313_6 hK v26 rfl dX11_film_43 ?_
          refine lv_iconst (v := 4) hx hb dX11_film_46 (by decide) ?_
          refine lv_icmp_eq (tgt := 53) hx hb dX11_film_47 (by decide) (fun c32 => ?_) (fun c32 => ?_)
          · have b33 : (la p2.toNatClampNeg).toInt = 4 := hw_ieq c32
            refine lv_aload hx hb dX11_film_53 (lv_at hl 0 rfl) ?_
            refine lv_iload_n hx hb dX11_film_55 rfl (lv_at hl 5 rfl) ?_
            refine lv_aload_n hx hb dX11_film_56 rfl (lv_at hl 2 rfl) ?_
            refine hw_get hx hb fg_10_10 hK vx rfl dX11_film_57 ?_
            refine hw_get hx hb fg_256_1 hK vc rfl dX11_film_60 ?_
            refine hw_cR (va_runV (As := [.int p3, .int lc_c]) (rest := []) ⟨hx, hb, hml, hown, hts⟩ (k_X7_spans l D G b17 p3 lc_c _ r22 (la p2.toNatClampNeg) (sz9 p2.toNatClampNeg) k18 R25) (cwV 2 hts gX11_film_X7_spans rfl rfl rfl (by decide +kernel) ⟨Nat.le_of_ble_eq_true rfl, Nat.le_of_ble_eq_true rfl⟩) (hw_pV (hw_rc (q := (RX7, TX7, 3)) hK v26 rfl) hH hK hST hS (by decide) (fun _ h => Or.inl h) v26) rfl rfl hl.1 rfl (lv_room (Nat.le_of_ble_eq_true rfl)) dX11_film_63 ⟨Nat.le_of_ble_eq_true rfl, Nat.le_of_ble_eq_true rfl⟩) (fun v hp => ?_)
            rcases hp with ⟨rfl, q34⟩ | ⟨rfl, q35⟩
            · refine lv_if_ne (tgt := 72) hx hb dX11_film_66 (by decide) (fun c36 => ?_) (fun c36 => ?_)
              · refine lv_aload_n hx hb dX11_film_72 rfl (lv_at hl 2 rfl) ?_
                refine lv_aload hx hb dX11_film_73 (lv_at hl 1 rfl) ?_
                refine lv_aload_n hx hb dX11_film_75 rfl (lv_at hl 2 rfl) ?_
                refine hw_get hx hb fg_26_10 hK vx rfl dX11_film_76 ?_
                refine lv_iload_n hx hb dX11_film_79 rfl (lv_at hl 3 rfl) ?_
                obtain ⟨r37, td_38, fd_39, os_40, v41, R42⟩ := hH.oS (hw_RX_2 Rx)
                refine hw_cR (va_runV (As := [.int p1]) (rest := [.ref b1, .ref h0]) ⟨hx, hb, hml, hown, hts⟩ (k_X9_bentOf l D G (rx 2) p1 _ (hw_RX_2 Rx)) (cwV 1 hts gX11_film_X9_bentOf rfl rfl rfl (by decide +kernel) ⟨Nat.le_of_ble_eq_true rfl, Nat.le_of_ble_eq_true rfl⟩) (hw_pV (hw_rc (q := (RX9, TX9, 7)) hK v41 rfl) hH hK hST hS (by decide) (fun _ h => Or.inl h) trivial) rfl rfl hl.1 rfl (lv_room (Nat.le_of_ble_eq_true rfl)) dX11_film_80 ⟨Nat.le_of_ble_eq_true rfl, Nat.le_of_ble_eq_true rfl⟩) (fun v hp => ?_)
                obtain ⟨x43, rfl⟩ := hp
                refine hw_cR (va_runV (As := [.ref b1, .int x43]) (rest := []) ⟨hx, hb, hml, hown, hts⟩ (k_X11_locksFor l D G h0 b1 x43 _ G0 k2) (cwV 2 hts gX11_film_X11_locksFor rfl rfl rfl (by decide +kernel) ⟨Nat.le_of_ble_eq_true rfl, Nat.le_of_ble_eq_true rfl⟩) (hw_pV (hw_rc (q := (RX11, TX11, 14)) hK vx rfl) hH hK hST hS (by decide) (fun _ h => Or.inl h) trivial) rfl rfl hl.1 rfl (lv_room (Nat.le_of_ble_eq_true rfl)) dX11_film_83 ⟨Nat.le_of_ble_eq_true rfl, Nat.le_of_ble_eq_true rfl⟩) (fun v hp => ?_)
                obtain ⟨x44, rfl⟩ := hp
                refine lv_istore (lv' := [(6, .int x44), (5, .ref b17), (4, .ref b1), (0, .ref h0), (1, .int p1), (2, .int p2), (3, .int p3)]) hx hb dX11_film_86 hl (by decide) rfl (fun ls hl => ?_)
                refine lv_iconst (v := 0) hx hb dX11_film_88 (by decide) ?_
                refine lv_istore (lv' := [(7, .int 0), (6, .int x44), (5, .ref b17), (4, .ref b1), (0, .ref h0), (1, .int p1), (2, .int p2), (3, .int p3)]) hx hb dX11_film_89 hl (by decide) rfl (fun ls hl => ?_)
                have L91 : ∀ (n47 : Nat) (y7_45 : Int32) (hm : (7 - y7_45.toInt).toNat < n47) (g46 : 0 ≤ y7_45.toInt ∧ y7_45.toInt ≤ 7) (H : Heap) (locs : List Loc) (hH : hw_HT D G H) (vx : va_at D.1 vwCl (h0, .inr (10, hw_LX rx pn_x pc_x ks_x sc_x)) H) (vq : va_at D.1 vwCl ((rx 13), .inl (D.2.1 7, 4, .inr (.inr (.inr (.inr fq))))) H) (vc : va_at D.1 vwCl ((rx 0), .inr (1, hw_LC rc kc_c lc_c wc_c dk_c)) H) (hRK : hw_Racks D G fq la sz9 H) (hS : va_S (hw_AW G [19] s.heap.size) s.heap H locs) (ls : Array Slot) (hl : lv_has ls 8 [(7, .int y7_45), (6, .int x44), (5, .ref b17), (4, .ref b1), (0, .ref h0), (1, .int p1), (2, .int p2), (3, .int p3)]), W p l e ({ frames := 5, cells := 0, slots := 0, locals := 114 } : Room) s m args below meth c H locs 0 0 QQ (F0 m 91 ls []) := by
                  intro n47
                  induction n47 with
                  | zero => intro y7_45 hm; exact absurd hm (Nat.not_lt_zero _)
                  | succ n47 ih91 =>
                    intro y7_45 hm g46 H locs hH vx vq vc hRK hS ls hl
                    refine lv_iload hx hb dX11_film_91 (lv_at hl 0 rfl) ?_
                    refine lv_aload_n hx hb dX11_film_93 rfl (lv_at hl 4 rfl) ?_
                    refine hw_get hx hb fg_10_10 hK vx rfl dX11_film_94 ?_
                    refine hw_get hx hb fg_256_1 hK vc rfl dX11_film_97 ?_
                    refine lv_icmp_ge (tgt := 126) hx hb dX11_film_100 (by decide) (fun c48 => ?_) (fun c48 => ?_)
                    · have b49 : lc_c.toInt ≤ y7_45.toInt := hw_ile c48
                      refine lv_aload_n hx hb dX11_film_126 rfl (lv_at hl 4 rfl) ?_
                      refine hw_get hx hb fg_10_10 hK vx rfl dX11_film_127 ?_
                      refine hw_get hx hb fg_256_1 hK vc rfl dX11_film_130 ?_
                      exact hw_iretM (v := lc_c) hx hb hr hlocks hQ hS rfl (⟨lc_c, rfl, hH, (by first | exact hRK | (subst_vars; exact hRK)), vx, vq, vc, (by first | rfl | trivial | assumption | omega | (intros; first | rfl | assumption | omega | (exfalso; omega)))⟩) dX11_film_133
                    · have b50 : y7_45.toInt < lc_c.toInt := hw_inle c48
                      refine lv_aload hx hb dX11_film_103 (lv_at hl 2 rfl) ?_
                      refine lv_iload_n hx hb dX11_film_105 rfl (lv_at hl 7 rfl) ?_
                      refine lv_iload hx hb dX11_film_106 (lv_at hl 0 rfl) ?_
                      refine lv_iadd hx hb dX11_film_108 ?_
                      refine lv_topi (fun x51 e52 => ?_)
                      refine lv_iload hx hb dX11_film_109 (lv_at hl 1 rfl) ?_
                      refine lv_iload hx hb dX11_film_111 (lv_at hl 0 rfl) ?_
                      refine lv_ishr hx hb dX11_film_113 ?_
                      refine lv_topi (fun x53 e54 => ?_)
                      refine lv_iconst (v := 1) hx hb dX11_film_114 (by decide) ?_
                      refine lv_iand hx hb dX11_film_115 ?_
                      refine lv_topi (fun x55 e56 => ?_)
                      have t57 : 0 ≤ x55.toInt ∧ x55.toInt ≤ 1 := by rw [e56]; exact hw_and (by first | decide | omega)
                      refine lv_i2l hx hb dX11_film_116 rfl ?_
                      refine lv_topl (fun x58 e59 => ?_)
                      obtain ⟨r60, la_61, sz_62, v63, R64⟩ := hH.oK k18
                      refine hw_cM0 (va_runV (As := [.int x51, .long x58]) (rest := []) ⟨hx, hb, hml, hown, hts⟩ (k_X7_put l D G b17 x51 x58 _ k18) (cwV 2 hts gX11_film_X7_put rfl rfl rfl (by decide +kernel) ⟨Nat.le_of_ble_eq_true rfl, Nat.le_of_ble_eq_true rfl⟩) (hw_pV (hw_rc (q := (RX7, TX7, 3)) hK v63 rfl) hH hK hST hS (by decide) (fun _ h => Or.inl h) trivial) rfl rfl hl.1 rfl (lv_room (Nat.le_of_ble_eq_true rfl)) dX11_film_117 ⟨Nat.le_of_ble_eq_true rfl, Nat.le_of_ble_eq_true rfl⟩) hS (hw_AWsub (by decide) (fun _ _ => rfl) hS.1) (fun v H locs hp hz hk hS => ?_)
                      obtain ⟨rfl, hH⟩ := hp
                      have hRK := hw_Racks.kept hRK (fun q9 h9 l9 => hk q9 l9 (hw_AWn h9 (by decide) l9))
                      have vx := va_at.kept vx (hk _ (hw_lt vx) (hw_AWn G0 (by decide) (hw_lt vx)))
                      have vq := va_at.kept vq (hk _ (hw_lt vq) (hw_AWn (hw_RX_13 Rx) (by decide) (hw_lt vq)))
                      have vc := va_at.kept vc (hk _ (hw_lt vc) (hw_AWn (hw_RX_0 Rx) (by decide) (hw_lt vc)))
                      have v63 := va_at.kept v63 (hk _ (hw_lt v63) (hw_AWn k18 (by decide) (hw_lt v63)))
                      obtain ⟨x65, e66⟩ : ∃ y : Int32, y = y7_45 + 1 := ⟨_, rfl⟩
                      refine lv_iinc (v := x65) (lv' := [(7, .int x65), (6, .int x44), (5, .ref b17), (4, .ref b1), (0, .ref h0), (1, .int p1), (2, .int p2), (3, .int p3)]) hx hb dX11_film_120 hl (k := 0) rfl (by rw [e66]; rfl) (by decide) rfl (fun ls hl => ?_)
                      have t67 : x65.toInt = y7_45.toInt + 1 := by rw [e66]; exact hw_add rfl rfl (by omega) (by omega)
                      refine lv_goto (tgt := 91) hx hb dX11_film_123 (by decide) ?_
                      exact ih91 x65 (by first | omega | omega) ⟨by first | decide | omega, by first | decide | omega⟩ _ _ hH vx vq vc hRK hS _ (lv_sub hl [0, 1, 2, 3, 4, 5, 6, 7] rfl)
                exact L91 _ 0 (Nat.lt_succ_self _) ⟨by first | decide | omega, by first | decide | omega⟩ _ _ hH vx vq vc hRK hS _ (lv_sub hl [0, 1, 2, 3, 4, 5, 6, 7] rfl)
              · exact absurd c36 (by decide)
            · refine lv_if_ne (tgt := 72) hx hb dX11_film_66 (by decide) (fun c68 => ?_) (fun c68 => ?_)
              · exact absurd c68 (by decide)
              · refine lv_bipush (v := (-13)) hx hb dX11_film_69 (by decide) ?_
                exact hw_iretM (v := (-13)) hx hb hr hlocks hQ hS rfl (⟨(-13), rfl, hH, (by first | exact hRK | (subst_vars; exact hRK)), vx, vq, vc, (by first | rfl | trivial | assumption | omega | (intros; first | rfl | assumption | omega | (exfalso; omega)))⟩) dX11_film_71
          · have b69 : (la p2.toNatClampNeg).toInt ≠ 4 := hw_ine c32
            refine lv_bipush (v := (-12)) hx hb dX11_film_50 (by decide) ?_
            exact hw_iretM (v := (-12)) hx hb hr hlocks hQ hS rfl (⟨(-12), rfl, hH, (by first | exact hRK | (subst_vars; exact hRK)), vx, vq, vc, (by first | rfl | trivial | assumption | omega | (intros; first | rfl | assumption | omega | (exfalso; omega)))⟩) dX11_film_52
        · exact absurd c31 (by decide)

set_option maxHeartbeats 4000000 in
set_option maxRecDepth 100000 in
theorem k_X11_odds (l : Launch) (D : hw_D) (G : Nat → Nat) (h0 : Nat) (p1 : Int32) (p2 : Int32) (p3 : Int32) (p4 : Int32) (sz : Nat) (rx : Nat → Nat) (pn_x pc_x ks_x sc_x : Int32) (rc : Nat → Nat) (kc_c lc_c wc_c dk_c : Int32) (G0 : G h0 = 1) (Rx : hw_RX G rx) (gsc_x : 0 ≤ sc_x.toInt ∧ sc_x.toInt ≤ 6) (Rc : hw_RC G rc) (gkc_c : 0 ≤ kc_c.toInt ∧ kc_c.toInt ≤ 7) (glc_c : 0 ≤ lc_c.toInt ∧ lc_c.toInt ≤ 7) (gwc_c : 0 ≤ wc_c.toInt ∧ wc_c.toInt ≤ 3) : Met l yX11_odds wsX11_odds ({ frames := 5, cells := 0, slots := 0, locals := 113 } : Room) (hw_PC D G [.ref h0, .int p1, .int p2, .int p3, .int p4] sz (fun H => va_at D.1 vwCl (h0, .inr (10, hw_LX rx pn_x pc_x ks_x sc_x)) H ∧ va_at D.1 vwCl ((rx 0), .inr (1, hw_LC rc kc_c lc_c wc_c dk_c)) H)) (hw_QR (fun v => ∃ (r : Int32), v = .int r ∧ (lc_c.toInt = 0 → r.toInt = -2))) 0 0 (fun _ => False) := by
  refine hw_met (cc := cX11_odds) (maxL := 10) (ret := (some .int)) (plainFor_of_name (by decide)) rfl (Nat.le_of_ble_eq_true rfl) ?_
  intro p e s m args below meth c QQ ls hsz hx hb hml hr hts hown hlocks hnm hH hK hST hF hQ hl
  subst hsz
  have hS : va_S (hw_AW G [] s.heap.size) s.heap s.heap [] := va_S.rf
  obtain ⟨vx, vc⟩ := hF
  have hl : lv_has ls 10 [(0, .ref h0), (1, .int p1), (2, .int p2), (3, .int p3), (4, .int p4)] := hl
  have u_10 : ∀ w ∈ u_ws RX11 TX11 14, w.before args s = true := fun w hw => hts w ((by decide +kernel : ∀ w ∈ u_ws RX11 TX11 14, w ∈ wsX11_odds) w hw)
  have fg_10_10 : hw_FG s args m 10 10 0 := ⟨RX11, "WardWalkers", RX11, TX11, 14, u_10, hown, rfl, by decide, (hts (.fieldLink RX11 10 "WardWalkers" "country" "LWardWalkers$Country;") (by decide +kernel)), (fun _ h9 => h9)⟩
  refine lv_aload_n hx hb dX11_odds_0 rfl (lv_at hl 0 rfl) ?_
  refine hw_get hx hb fg_10_10 hK vx rfl dX11_odds_1 ?_
  refine lv_iload_n hx hb dX11_odds_4 rfl (lv_at hl 2 rfl) ?_
  refine hw_cR (va_runV (As := [.int p2]) (rest := []) ⟨hx, hb, hml, hown, hts⟩ (k_X1_lockAt l D G (rx 0) p2 _ rc kc_c lc_c wc_c dk_c (hw_RX_0 Rx) Rc ⟨by first | decide | omega, by first | decide | omega⟩ ⟨by first | decide | omega, by first | decide | omega⟩ ⟨by first | decide | omega, by first | decide | omega⟩) (cwV 1 hts gX11_odds_X1_lockAt rfl rfl rfl (by decide +kernel) ⟨Nat.le_of_ble_eq_true rfl, Nat.le_of_ble_eq_true rfl⟩) (hw_pV (hw_rc (q := (RX1, TX1, 7)) hK vc rfl) hH hK hST hS (by decide) (fun _ h => Or.inl h) vc) rfl rfl hl.1 rfl (lv_room (Nat.le_of_ble_eq_true rfl)) dX11_odds_5 ⟨Nat.le_of_ble_eq_true rfl, Nat.le_of_ble_eq_true rfl⟩) (fun v hp => ?_)
  rcases hp with rfl | ⟨b1, rfl, k2, q3⟩
  · refine lv_astoreN (lv' := [(5, .null), (0, .ref h0), (1, .int p1), (2, .int p2), (3, .int p3), (4, .int p4)]) hx hb dX11_odds_8 hl (by decide) rfl (fun ls hl => ?_)
    refine lv_aloadN hx hb dX11_odds_10 (lv_at hl 0 rfl) ?_
    refine lv_ifnullN (tgt := 29) hx hb dX11_odds_12 (by decide) ?_
    refine lv_bipush (v := (-2)) hx hb dX11_odds_29 (by decide) ?_
    exact hw_iretR (v := (-2)) hx hb hr hlocks hQ rfl (⟨(-2), rfl, (by first | rfl | trivial | assumption | omega | (intros; first | rfl | assumption | omega | (exfalso; omega)))⟩) dX11_odds_31
  · refine lv_astore (lv' := [(5, .ref b1), (0, .ref h0), (1, .int p1), (2, .int p2), (3, .int p3), (4, .int p4)]) hx hb dX11_odds_8 hl (by decide) rfl (fun ls hl => ?_)
    refine lv_aload hx hb dX11_odds_10 (lv_at hl 0 rfl) ?_
    refine lv_ifnull hx hb dX11_odds_12 ?_
    refine lv_iload_n hx hb dX11_odds_15 rfl (lv_at hl 2 rfl) ?_
    refine lv_aload_n hx hb dX11_odds_16 rfl (lv_at hl 1 rfl) ?_
    refine hw_get hx hb fg_10_10 hK vx rfl dX11_odds_17 ?_
    refine hw_cR (va_runV (As := []) (rest := [.int p1]) ⟨hx, hb, hml, hown, hts⟩ (k_X1_allKeys l D G (rx 0) _ (hw_RX_0 Rx)) (cwV 0 hts gX11_odds_X1_allKeys rfl rfl rfl (by decide +kernel) ⟨Nat.le_of_ble_eq_true rfl, Nat.le_of_ble_eq_true rfl⟩) (hw_pV (hw_rc (q := (RX1, TX1, 7)) hK vc rfl) hH hK hST hS (by decide) (fun _ h => Or.inl h) trivial) rfl rfl hl.1 rfl (lv_room (Nat.le_of_ble_eq_true rfl)) dX11_odds_20 ⟨Nat.le_of_ble_eq_true rfl, Nat.le_of_ble_eq_true rfl⟩) (fun v hp => ?_)
    obtain ⟨x4, rfl⟩ := hp
    refine lv_iconst (v := (-1)) hx hb dX11_odds_23 (by decide) ?_
    refine lv_ixor hx hb dX11_odds_24 ?_
    refine lv_topi (fun x5 e6 => ?_)
    refine lv_iand hx hb dX11_odds_25 ?_
    refine lv_topi (fun x7 e8 => ?_)
    refine lv_if_eq (tgt := 32) hx hb dX11_odds_26 (by decide) (fun c9 => ?_) (fun c9 => ?_)
    · have b10 : x7.toInt = 0 := hw_ieq c9
      refine lv_iload_n hx hb dX11_odds_32 rfl (lv_at hl 4 rfl) ?_
      refine lv_if_lt (tgt := 53) hx hb dX11_odds_33 (by decide) (fun c11 => ?_) (fun c11 => ?_)
      · have b12 : p3.toInt < 0 := hw_ilt c11
        refine lv_bipush (v := (-3)) hx hb dX11_odds_53 (by decide) ?_
        exact hw_iretR (v := (-3)) hx hb hr hlocks hQ rfl (⟨(-3), rfl, (by first | rfl | trivial | assumption | omega | (intros; first | rfl | assumption | omega | (exfalso; omega)))⟩) dX11_odds_55
      · have b13 : 0 ≤ p3.toInt := hw_inlt c11
        refine lv_iload_n hx hb dX11_odds_36 rfl (lv_at hl 4 rfl) ?_
        refine lv_bipush (v := 7) hx hb dX11_odds_37 (by decide) ?_
        refine lv_icmp_gt (tgt := 53) hx hb dX11_odds_39 (by decide) (fun c14 => ?_) (fun c14 => ?_)
        · have b15 : 7 < p3.toInt := hw_ilt c14
          refine lv_bipush (v := (-3)) hx hb dX11_odds_53 (by decide) ?_
          exact hw_iretR (v := (-3)) hx hb hr hlocks hQ rfl (⟨(-3), rfl, (by first | rfl | trivial | assumption | omega | (intros; first | rfl | assumption | omega | (exfalso; omega)))⟩) dX11_odds_55
        · have b16 : p3.toInt ≤ 7 := hw_inlt c14
          refine lv_iload hx hb dX11_odds_42 (lv_at hl 5 rfl) ?_
          refine lv_if_lt (tgt := 53) hx hb dX11_odds_44 (by decide) (fun c17 => ?_) (fun c17 => ?_)
          · have b18 : p4.toInt < 0 := hw_ilt c17
            refine lv_bipush (v := (-3)) hx hb dX11_odds_53 (by decide) ?_
            exact hw_iretR (v := (-3)) hx hb hr hlocks hQ rfl (⟨(-3), rfl, (by first | rfl | trivial | assumption | omega | (intros; first | rfl | assumption | omega | (exfalso; omega)))⟩) dX11_odds_55
          · have b19 : 0 ≤ p4.toInt := hw_inlt c17
            refine lv_iload hx hb dX11_odds_47 (lv_at hl 5 rfl) ?_
            refine lv_iconst (v := 1) hx hb dX11_odds_49 (by decide) ?_
            refine lv_icmp_le (tgt := 56) hx hb dX11_odds_50 (by decide) (fun c20 => ?_) (fun c20 => ?_)
            · have b21 : p4.toInt ≤ 1 := hw_ile c20
              refine lv_iload_n hx hb dX11_odds_56 rfl (lv_at hl 2 rfl) ?_
              refine lv_if_ne (tgt := 63) hx hb dX11_odds_57 (by decide) (fun c22 => ?_) (fun c22 => ?_)
              · have b23 : p1.toInt ≠ 0 := hw_ine c22
                refine lv_iload_n hx hb dX11_odds_63 rfl (lv_at hl 2 rfl) ?_
                refine hw_cR (va_runS (As := [.int p1]) (rest := []) ⟨hx, hb, hml, hown, hts⟩ (k_J6_bitCount_0f7a4 l D G p1 _) (va_cwS 1 hts gX11_odds_J6_bitCount_0f7a4 rfl rfl rfl (by decide +kernel) ⟨Nat.le_of_ble_eq_true rfl, Nat.le_of_ble_eq_true rfl⟩) (hw_pS hH hK hST hS (by decide) (fun _ h => Or.inl h) trivial) rfl rfl hl.1 rfl (lv_room (Nat.le_of_ble_eq_true rfl)) dX11_odds_64 ⟨Nat.le_of_ble_eq_true rfl, Nat.le_of_ble_eq_true rfl⟩) (fun v hp => ?_)
                obtain ⟨x24, rfl, g25⟩ := hp
                refine lv_istore (lv' := [(6, .int x24), (5, .ref b1), (0, .ref h0), (1, .int p1), (2, .int p2), (3, .int p3), (4, .int p4)]) hx hb dX11_odds_67 hl (by decide) rfl (fun ls hl => ?_)
                refine lv_iload_n hx hb dX11_odds_69 rfl (lv_at hl 3 rfl) ?_
                refine lv_aload_n hx hb dX11_odds_70 rfl (lv_at hl 2 rfl) ?_
                refine lv_aload hx hb dX11_odds_71 (lv_at hl 1 rfl) ?_
                refine hw_cR (va_runV (As := [.ref b1]) (rest := [.int p1]) ⟨hx, hb, hml, hown, hts⟩ (k_X11_keysFor l D G h0 b1 _ G0 k2) (cwV 1 hts gX11_odds_X11_keysFor rfl rfl rfl (by decide +kernel) ⟨Nat.le_of_ble_eq_true rfl, Nat.le_of_ble_eq_true rfl⟩) (hw_pV (hw_rc (q := (RX11, TX11, 14)) hK vx rfl) hH hK hST hS (by decide) (fun _ h => Or.inl h) trivial) rfl rfl hl.1 rfl (lv_room (Nat.le_of_ble_eq_true rfl)) dX11_odds_73 ⟨Nat.le_of_ble_eq_true rfl, Nat.le_of_ble_eq_true rfl⟩) (fun v hp => ?_)
                obtain ⟨x26, rfl⟩ := hp
                refine lv_iconst (v := (-1)) hx hb dX11_odds_76 (by decide) ?_
                refine lv_ixor hx hb dX11_odds_77 ?_
                refine lv_topi (fun x27 e28 => ?_)
                refine lv_iand hx hb dX11_odds_78 ?_
                refine lv_topi (fun x29 e30 => ?_)
                refine hw_cR (va_runS (As := [.int x29]) (rest := []) ⟨hx, hb, hml, hown, hts⟩ (k_J6_bitCount_0f7a4 l D G x29 _) (va_cwS 1 hts gX11_odds_J6_bitCount_0f7a4 rfl rfl rfl (by decide +kernel) ⟨Nat.le_of_ble_eq_true rfl, Nat.le_of_ble_eq_true rfl⟩) (hw_pS hH hK hST hS (by decide) (fun _ h => Or.inl h) trivial) rfl rfl hl.1 rfl (lv_room (Nat.le_of_ble_eq_true rfl)) dX11_odds_79 ⟨Nat.le_of_ble_eq_true rfl, Nat.le_of_ble_eq_true rfl⟩) (fun v hp => ?_)
                obtain ⟨x31, rfl, g32⟩ := hp
                refine lv_istore (lv' := [(7, .int x31), (6, .int x24), (5, .ref b1), (0, .ref h0), (1, .int p1), (2, .int p2), (3, .int p3), (4, .int p4)]) hx hb dX11_odds_82 hl (by decide) rfl (fun ls hl => ?_)
                refine lv_iload_n hx hb dX11_odds_84 rfl (lv_at hl 6 rfl) ?_
                refine lv_iload hx hb dX11_odds_85 (lv_at hl 1 rfl) ?_
                refine va_mmin hx hb (hml.trans hl.1.symm) hown (hts (.methodLink RX11 289 Lib.Math.min.name) (by decide +kernel)) (hts (.static Lib.Math.min.name) (by decide +kernel)) (hts (.initialized "java/lang/Math") (by decide +kernel)) (hts (.code Lib.Math.min.name Lib.Math.min.code 2 (some .int)) (by decide +kernel)) (Nat.le_of_ble_eq_true rfl) (Nat.le_of_ble_eq_true rfl) (Nat.le_of_ble_eq_true rfl) (Nat.le_of_ble_eq_true rfl) dX11_odds_87 ?_
                refine lv_topi (fun x33 e34 => ?_)
                have t35 : x33.toInt = min p3.toInt x24.toInt := by rw [e34]; exact hw_min rfl rfl
                refine lv_istore (lv' := [(8, .int x33), (7, .int x31), (6, .int x24), (5, .ref b1), (0, .ref h0), (1, .int p1), (2, .int p2), (3, .int p3), (4, .int p4)]) hx hb dX11_odds_90 hl (by decide) rfl (fun ls hl => ?_)
                refine lv_iload hx hb dX11_odds_92 (lv_at hl 2 rfl) ?_
                refine lv_iload hx hb dX11_odds_94 (lv_at hl 0 rfl) ?_
                refine hw_cR (va_runS (As := [.int x24, .int x33]) (rest := []) ⟨hx, hb, hml, hown, hts⟩ (k_X11_choose l D G x24 x33 _) (va_cwS 2 hts gX11_odds_X11_choose rfl rfl rfl (by decide +kernel) ⟨Nat.le_of_ble_eq_true rfl, Nat.le_of_ble_eq_true rfl⟩) (hw_pS hH hK hST hS (by decide) (fun _ h => Or.inl h) trivial) rfl rfl hl.1 rfl (lv_room (Nat.le_of_ble_eq_true rfl)) dX11_odds_96 ⟨Nat.le_of_ble_eq_true rfl, Nat.le_of_ble_eq_true rfl⟩) (fun v hp => ?_)
                obtain ⟨x36, rfl⟩ := hp
                refine lv_istore (lv' := [(9, .int x36), (8, .int x33), (7, .int x31), (6, .int x24), (5, .ref b1), (0, .ref h0), (1, .int p1), (2, .int p2), (3, .int p3), (4, .int p4)]) hx hb dX11_odds_99 hl (by decide) rfl (fun ls hl => ?_)
                refine lv_iload hx hb dX11_odds_101 (lv_at hl 0 rfl) ?_
                refine lv_iload hx hb dX11_odds_103 (lv_at hl 2 rfl) ?_
                refine lv_iload hx hb dX11_odds_105 (lv_at hl 1 rfl) ?_
                refine hw_cR (va_runS (As := [.int x31, .int x33]) (rest := [.int x36]) ⟨hx, hb, hml, hown, hts⟩ (k_X11_choose l D G x31 x33 _) (va_cwS 2 hts gX11_odds_X11_choose rfl rfl rfl (by decide +kernel) ⟨Nat.le_of_ble_eq_true rfl, Nat.le_of_ble_eq_true rfl⟩) (hw_pS hH hK hST hS (by decide) (fun _ h => Or.inl h) trivial) rfl rfl hl.1 rfl (lv_room (Nat.le_of_ble_eq_true rfl)) dX11_odds_107 ⟨Nat.le_of_ble_eq_true rfl, Nat.le_of_ble_eq_true rfl⟩) (fun v hp => ?_)
                obtain ⟨x37, rfl⟩ := hp
                refine lv_isub hx hb dX11_odds_110 ?_
                refine lv_topi (fun x38 e39 => ?_)
                refine lv_i2l hx hb dX11_odds_111 rfl ?_
                refine lv_topl (fun x40 e41 => ?_)
                refine lv_iload hx hb dX11_odds_112 (lv_at hl 0 rfl) ?_
                refine lv_i2l hx hb dX11_odds_114 rfl ?_
                refine lv_topl (fun x42 e43 => ?_)
                refine lv_iload hx hb dX11_odds_115 (lv_at hl 9 rfl) ?_
                refine hw_cR (va_runS (As := [.long x40, .long x42, .int p4]) (rest := []) ⟨hx, hb, hml, hown, hts⟩ (k_X11_lowest l D G x40 x42 p4 _) (va_cwS 3 hts gX11_odds_X11_lowest rfl rfl rfl (by decide +kernel) ⟨Nat.le_of_ble_eq_true rfl, Nat.le_of_ble_eq_true rfl⟩) (hw_pS hH hK hST hS (by decide) (fun _ h => Or.inl h) trivial) rfl rfl hl.1 rfl (lv_room (Nat.le_of_ble_eq_true rfl)) dX11_odds_117 ⟨Nat.le_of_ble_eq_true rfl, Nat.le_of_ble_eq_true rfl⟩) (fun v hp => ?_)
                obtain ⟨x44, rfl⟩ := hp
                refine lv_l2i hx hb dX11_odds_120 rfl ?_
                refine lv_topi (fun x45 e46 => ?_)
                exact hw_iretR (v := x45) hx hb hr hlocks hQ rfl (⟨x45, rfl, (by first | rfl | trivial | assumption | omega | (intros; first | rfl | assumption | omega | (exfalso; omega)))⟩) dX11_odds_121
              · have b47 : p1.toInt = 0 := hw_ieq c22
                refine lv_bipush (v := (-16)) hx hb dX11_odds_60 (by decide) ?_
                exact hw_iretR (v := (-16)) hx hb hr hlocks hQ rfl (⟨(-16), rfl, (by first | rfl | trivial | assumption | omega | (intros; first | rfl | assumption | omega | (exfalso; omega)))⟩) dX11_odds_62
            · have b48 : 1 < p4.toInt := hw_inle c20
              refine lv_bipush (v := (-3)) hx hb dX11_odds_53 (by decide) ?_
              exact hw_iretR (v := (-3)) hx hb hr hlocks hQ rfl (⟨(-3), rfl, (by first | rfl | trivial | assumption | omega | (intros; first | rfl | assumption | omega | (exfalso; omega)))⟩) dX11_odds_55
    · have b49 : x7.toInt ≠ 0 := hw_ine c9
      refine lv_bipush (v := (-2)) hx hb dX11_odds_29 (by decide) ?_
      exact hw_iretR (v := (-2)) hx hb hr hlocks hQ rfl (⟨(-2), rfl, (by first | rfl | trivial | assumption | omega | (intros; first | rfl | assumption | omega | (exfalso; omega)))⟩) dX11_odds_31

set_option maxHeartbeats 4000000 in
set_option maxRecDepth 100000 in
theorem k_X11_match (l : Launch) (D : hw_D) (G : Nat → Nat) (h0 : Nat) (p1 : Int32) (sz : Nat) (rx : Nat → Nat) (pn_x pc_x ks_x sc_x : Int32) (rc : Nat → Nat) (kc_c lc_c wc_c dk_c : Int32) (G0 : G h0 = 1) (Rx : hw_RX G rx) (gsc_x : 0 ≤ sc_x.toInt ∧ sc_x.toInt ≤ 6) (Rc : hw_RC G rc) (gkc_c : 0 ≤ kc_c.toInt ∧ kc_c.toInt ≤ 7) (glc_c : 0 ≤ lc_c.toInt ∧ lc_c.toInt ≤ 7) (gwc_c : 0 ≤ wc_c.toInt ∧ wc_c.toInt ≤ 3) : Met l yX11_match wsX11_match ({ frames := 6, cells := 0, slots := 0, locals := 135 } : Room) (hw_PC D G [.ref h0, .int p1] sz (fun H => va_at D.1 vwCl (h0, .inr (10, hw_LX rx pn_x pc_x ks_x sc_x)) H ∧ va_at D.1 vwCl ((rx 0), .inr (1, hw_LC rc kc_c lc_c wc_c dk_c)) H)) (hw_QM (fun v H => ∃ (r : Int32), v = some (.int r) ∧ hw_HT D G H ∧ va_at D.1 vwCl (h0, .inr (10, hw_LX rx pn_x pc_x ks_x sc_x)) H ∧ va_at D.1 vwCl ((rx 0), .inr (1, hw_LC rc kc_c lc_c wc_c dk_c)) H) (hw_AW G [5, 13, 14, 15] sz)) 0 0 (hw_AW G [5, 13, 14, 15] sz) := by
  refine hw_met (cc := cX11_match) (maxL := 3) (ret := (some .int)) (plainFor_of_name (by decide)) rfl (Nat.le_of_ble_eq_true rfl) ?_
  intro p e s m args below meth c QQ ls hsz hx hb hml hr hts hown hlocks hnm hH hK hST hF hQ hl
  subst hsz
  have hS : va_S (hw_AW G [5, 13, 14, 15] s.heap.size) s.heap s.heap [] := va_S.rf
  obtain ⟨vx, vc⟩ := hF
  have hl : lv_has ls 3 [(0, .ref h0), (1, .int p1)] := hl
  have u_10 : ∀ w ∈ u_ws RX11 TX11 14, w.before args s = true := fun w hw => hts w ((by decide +kernel : ∀ w ∈ u_ws RX11 TX11 14, w ∈ wsX11_match) w hw)
  have fg_51_10 : hw_FG s args m 51 10 12 := ⟨RX11, "WardWalkers", RX11, TX11, 14, u_10, hown, rfl, by decide, (hts (.fieldLink RX11 51 "WardWalkers" "planner" "LWardWalkers$Planner;") (by decide +kernel)), (fun _ h9 => h9)⟩
  have u_5 : ∀ w ∈ u_ws RX6 TX6 7, w.before args s = true := fun w hw => hts w ((by decide +kernel : ∀ w ∈ u_ws RX6 TX6 7, w ∈ wsX11_match) w hw)
  have fg_250_5 : hw_FG s args m 250 5 3 := ⟨RX11, "WardWalkers$Planner", RX6, TX6, 7, u_5, hown, rfl, by decide, (hts (.fieldLink RX11 250 "WardWalkers$Planner" "pairs" "I") (by decide +kernel)), (fun _ h9 => h9)⟩
  have fg_241_5 : hw_FG s args m 241 5 0 := ⟨RX11, "WardWalkers$Planner", RX6, TX6, 7, u_5, hown, rfl, by decide, (hts (.fieldLink RX11 241 "WardWalkers$Planner" "takers" "[I") (by decide +kernel)), (fun _ h9 => h9)⟩
  have fg_10_10 : hw_FG s args m 10 10 0 := ⟨RX11, "WardWalkers", RX11, TX11, 14, u_10, hown, rfl, by decide, (hts (.fieldLink RX11 10 "WardWalkers" "country" "LWardWalkers$Country;") (by decide +kernel)), (fun _ h9 => h9)⟩
  refine lv_iload_n hx hb dX11_match_0 rfl (lv_at hl 1 rfl) ?_
  refine lv_iconst (v := (-1)) hx hb dX11_match_1 (by decide) ?_
  refine lv_icmp_eq (tgt := 19) hx hb dX11_match_2 (by decide) (fun c1 => ?_) (fun c1 => ?_)
  · have b2 : p1.toInt = (-1) := hw_ieq c1
    refine lv_iconst (v := 0) hx hb dX11_match_19 (by decide) ?_
    refine lv_istore_n (lv' := [(2, .int 0), (0, .ref h0), (1, .int p1)]) hx hb dX11_match_20 rfl hl (by decide) rfl (fun ls hl => ?_)
    have L21 : ∀ (n5 : Nat) (y2_3 : Int32) (hm : (7 - y2_3.toInt).toNat < n5) (g4 : 0 ≤ y2_3.toInt ∧ y2_3.toInt ≤ 7) (H : Heap) (locs : List Loc) (hH : hw_HT D G H) (vx : va_at D.1 vwCl (h0, .inr (10, hw_LX rx pn_x pc_x ks_x sc_x)) H) (vc : va_at D.1 vwCl ((rx 0), .inr (1, hw_LC rc kc_c lc_c wc_c dk_c)) H) (hS : va_S (hw_AW G [5, 13, 14, 15] s.heap.size) s.heap H locs) (ls : Array Slot) (hl : lv_has ls 3 [(2, .int y2_3), (0, .ref h0), (1, .int p1)]), W p l e ({ frames := 6, cells := 0, slots := 0, locals := 135 } : Room) s m args below meth c H locs 0 0 QQ (F0 m 21 ls []) := by
      intro n5
      induction n5 with
      | zero => intro y2_3 hm; exact absurd hm (Nat.not_lt_zero _)
      | succ n5 ih21 =>
        intro y2_3 hm g4 H locs hH vx vc hS ls hl
        refine lv_iload_n hx hb dX11_match_21 rfl (lv_at hl 0 rfl) ?_
        refine lv_bipush (v := 7) hx hb dX11_match_22 (by decide) ?_
        refine lv_icmp_ge (tgt := 47) hx hb dX11_match_24 (by decide) (fun c6 => ?_) (fun c6 => ?_)
        · have b7 : 7 ≤ y2_3.toInt := hw_ile c6
          refine lv_aload_n hx hb dX11_match_47 rfl (lv_at hl 1 rfl) ?_
          refine hw_get hx hb fg_51_10 hK vx rfl dX11_match_48 ?_
          obtain ⟨r8, pa_9, v10, R11⟩ := hH.oP (hw_RX_12 Rx)
          refine hw_cM0 (va_runV (As := []) (rest := []) ⟨hx, hb, hml, hown, hts⟩ (k_X6_pairUp l D G (rx 12) _ (hw_RX_12 Rx)) (cwV 0 hts gX11_match_X6_pairUp rfl rfl rfl (by decide +kernel) ⟨Nat.le_of_ble_eq_true rfl, Nat.le_of_ble_eq_true rfl⟩) (hw_pV (hw_rc (q := (RX6, TX6, 7)) hK v10 rfl) hH hK hST hS (by decide) (fun _ h => Or.inl h) trivial) rfl rfl hl.1 rfl (lv_room (Nat.le_of_ble_eq_true rfl)) dX11_match_51 ⟨Nat.le_of_ble_eq_true rfl, Nat.le_of_ble_eq_true rfl⟩) hS (hw_AWsub (by decide) (fun _ _ => rfl) hS.1) (fun v H locs hp hz hk hS => ?_)
          obtain ⟨rfl, hH⟩ := hp
          have vx := va_at.kept vx (hk _ (hw_lt vx) (hw_AWn G0 (by decide) (hw_lt vx)))
          have vc := va_at.kept vc (hk _ (hw_lt vc) (hw_AWn (hw_RX_0 Rx) (by decide) (hw_lt vc)))
          refine lv_iload_n hx hb dX11_match_54 rfl (lv_at hl 2 rfl) ?_
          refine lv_iconst (v := (-1)) hx hb dX11_match_55 (by decide) ?_
          refine lv_icmp_ne (tgt := 69) hx hb dX11_match_56 (by decide) (fun c12 => ?_) (fun c12 => ?_)
          · have b13 : p1.toInt ≠ (-1) := hw_ine c12
            exfalso; omega
          · have b14 : p1.toInt = (-1) := hw_ieq c12
            refine lv_aload_n hx hb dX11_match_59 rfl (lv_at hl 1 rfl) ?_
            refine hw_get hx hb fg_51_10 hK vx rfl dX11_match_60 ?_
            obtain ⟨r15, pa_16, v17, R18⟩ := hH.oP (hw_RX_12 Rx)
            refine hw_get hx hb fg_250_5 hK v17 rfl dX11_match_63 ?_
            refine lv_goto (tgt := 77) hx hb dX11_match_66 (by decide) ?_
            exact hw_iretM (v := pa_16) hx hb hr hlocks hQ hS rfl (⟨pa_16, rfl, hH, vx, vc⟩) dX11_match_77
        · have b19 : y2_3.toInt < 7 := hw_inle c6
          refine lv_aload_n hx hb dX11_match_27 rfl (lv_at hl 1 rfl) ?_
          refine hw_get hx hb fg_51_10 hK vx rfl dX11_match_28 ?_
          obtain ⟨r20, pa_21, v22, R23⟩ := hH.oP (hw_RX_12 Rx)
          refine hw_get hx hb fg_241_5 hK v22 rfl dX11_match_31 ?_
          refine lv_iload_n hx hb dX11_match_34 rfl (lv_at hl 0 rfl) ?_
          refine lv_aload_n hx hb dX11_match_35 rfl (lv_at hl 1 rfl) ?_
          refine lv_iload_n hx hb dX11_match_36 rfl (lv_at hl 0 rfl) ?_
          refine hw_cR (va_runV (As := [.int y2_3]) (rest := [.int y2_3, .ref (r20 0)]) ⟨hx, hb, hml, hown, hts⟩ (k_X11_usableKeysFor l D G h0 y2_3 _ rx pn_x pc_x ks_x sc_x rc kc_c lc_c wc_c dk_c G0 Rx ⟨by first | decide | omega, by first | decide | omega⟩ Rc ⟨by first | decide | omega, by first | decide | omega⟩ ⟨by first | decide | omega, by first | decide | omega⟩ ⟨by first | decide | omega, by first | decide | omega⟩) (cwV 1 hts gX11_match_X11_usableKeysFor rfl rfl rfl (by decide +kernel) ⟨Nat.le_of_ble_eq_true rfl, Nat.le_of_ble_eq_true rfl⟩) (hw_pV (hw_rc (q := (RX11, TX11, 14)) hK vx rfl) hH hK hST hS (by decide) (fun _ h => Or.inl h) ⟨vx, vc⟩) rfl rfl hl.1 rfl (lv_room (Nat.le_of_ble_eq_true rfl)) dX11_match_37 ⟨Nat.le_of_ble_eq_true rfl, Nat.le_of_ble_eq_true rfl⟩) (fun v hp => ?_)
          obtain ⟨x24, rfl, q25⟩ := hp
          obtain ⟨f26, v27⟩ := hH.a13 (hw_RP_0 R23)
          refine hw_iast hx hb hK hH v27 (hw_in (by omega) (by omega)) (fun _ => by rw [(hw_RP_0 R23)]; exact ⟨_, rfl⟩) hS (hw_AWi (hw_RP_0 R23) (by decide)) dX11_match_40 (fun H locs hH v27 oq hz hS => ?_)
          have vx := va_at.kept vx (oq _ (hw_ne G0 (hw_RP_0 R23) (by decide)))
          have vc := va_at.kept vc (oq _ (hw_ne (hw_RX_0 Rx) (hw_RP_0 R23) (by decide)))
          have v22 := va_at.kept v22 (oq _ (hw_ne (hw_RX_12 Rx) (hw_RP_0 R23) (by decide)))
          obtain ⟨x29, e30⟩ : ∃ y : Int32, y = y2_3 + 1 := ⟨_, rfl⟩
          refine lv_iinc (v := x29) (lv' := [(2, .int x29), (0, .ref h0), (1, .int p1)]) hx hb dX11_match_41 hl (k := 0) rfl (by rw [e30]; rfl) (by decide) rfl (fun ls hl => ?_)
          have t31 : x29.toInt = y2_3.toInt + 1 := by rw [e30]; exact hw_add rfl rfl (by omega) (by omega)
          refine lv_goto (tgt := 21) hx hb dX11_match_44 (by decide) ?_
          exact ih21 x29 (by first | omega | omega) ⟨by first | decide | omega, by first | decide | omega⟩ _ _ hH vx vc hS _ (lv_sub hl [0, 1, 2] rfl)
    exact L21 _ 0 (Nat.lt_succ_self _) ⟨by first | decide | omega, by first | decide | omega⟩ _ _ hH vx vc hS _ (lv_sub hl [0, 1, 2] rfl)
  · have b32 : p1.toInt ≠ (-1) := hw_ine c1
    refine lv_aload_n hx hb dX11_match_5 rfl (lv_at hl 0 rfl) ?_
    refine hw_get hx hb fg_10_10 hK vx rfl dX11_match_6 ?_
    refine lv_iload_n hx hb dX11_match_9 rfl (lv_at hl 1 rfl) ?_
    refine hw_cR (va_runV (As := [.int p1]) (rest := []) ⟨hx, hb, hml, hown, hts⟩ (k_X1_lockAt l D G (rx 0) p1 _ rc kc_c lc_c wc_c dk_c (hw_RX_0 Rx) Rc ⟨by first | decide | omega, by first | decide | omega⟩ ⟨by first | decide | omega, by first | decide | omega⟩ ⟨by first | decide | omega, by first | decide | omega⟩) (cwV 1 hts gX11_match_X1_lockAt rfl rfl rfl (by decide +kernel) ⟨Nat.le_of_ble_eq_true rfl, Nat.le_of_ble_eq_true rfl⟩) (hw_pV (hw_rc (q := (RX1, TX1, 7)) hK vc rfl) hH hK hST hS (by decide) (fun _ h => Or.inl h) vc) rfl rfl hl.1 rfl (lv_room (Nat.le_of_ble_eq_true rfl)) dX11_match_10 ⟨Nat.le_of_ble_eq_true rfl, Nat.le_of_ble_eq_true rfl⟩) (fun v hp => ?_)
    rcases hp with rfl | ⟨b33, rfl, k34, q35⟩
    · refine lv_ifnonnullN hx hb dX11_match_13 ?_
      refine lv_bipush (v := (-2)) hx hb dX11_match_16 (by decide) ?_
      exact hw_iretM (v := (-2)) hx hb hr hlocks hQ hS rfl (⟨(-2), rfl, hH, vx, vc⟩) dX11_match_18
    · refine lv_ifnonnull (tgt := 19) hx hb dX11_match_13 (by decide) ?_
      refine lv_iconst (v := 0) hx hb dX11_match_19 (by decide) ?_
      refine lv_istore_n (lv' := [(2, .int 0), (0, .ref h0), (1, .int p1)]) hx hb dX11_match_20 rfl hl (by decide) rfl (fun ls hl => ?_)
      have L21 : ∀ (n38 : Nat) (y2_36 : Int32) (hm : (7 - y2_36.toInt).toNat < n38) (g37 : 0 ≤ y2_36.toInt ∧ y2_36.toInt ≤ 7) (H : Heap) (locs : List Loc) (hH : hw_HT D G H) (vx : va_at D.1 vwCl (h0, .inr (10, hw_LX rx pn_x pc_x ks_x sc_x)) H) (vc : va_at D.1 vwCl ((rx 0), .inr (1, hw_LC rc kc_c lc_c wc_c dk_c)) H) (hS : va_S (hw_AW G [5, 13, 14, 15] s.heap.size) s.heap H locs) (ls : Array Slot) (hl : lv_has ls 3 [(2, .int y2_36), (0, .ref h0), (1, .int p1)]), W p l e ({ frames := 6, cells := 0, slots := 0, locals := 135 } : Room) s m args below meth c H locs 0 0 QQ (F0 m 21 ls []) := by
        intro n38
        induction n38 with
        | zero => intro y2_36 hm; exact absurd hm (Nat.not_lt_zero _)
        | succ n38 ih21 =>
          intro y2_36 hm g37 H locs hH vx vc hS ls hl
          refine lv_iload_n hx hb dX11_match_21 rfl (lv_at hl 0 rfl) ?_
          refine lv_bipush (v := 7) hx hb dX11_match_22 (by decide) ?_
          refine lv_icmp_ge (tgt := 47) hx hb dX11_match_24 (by decide) (fun c39 => ?_) (fun c39 => ?_)
          · have b40 : 7 ≤ y2_36.toInt := hw_ile c39
            refine lv_aload_n hx hb dX11_match_47 rfl (lv_at hl 1 rfl) ?_
            refine hw_get hx hb fg_51_10 hK vx rfl dX11_match_48 ?_
            obtain ⟨r41, pa_42, v43, R44⟩ := hH.oP (hw_RX_12 Rx)
            refine hw_cM0 (va_runV (As := []) (rest := []) ⟨hx, hb, hml, hown, hts⟩ (k_X6_pairUp l D G (rx 12) _ (hw_RX_12 Rx)) (cwV 0 hts gX11_match_X6_pairUp rfl rfl rfl (by decide +kernel) ⟨Nat.le_of_ble_eq_true rfl, Nat.le_of_ble_eq_true rfl⟩) (hw_pV (hw_rc (q := (RX6, TX6, 7)) hK v43 rfl) hH hK hST hS (by decide) (fun _ h => Or.inl h) trivial) rfl rfl hl.1 rfl (lv_room (Nat.le_of_ble_eq_true rfl)) dX11_match_51 ⟨Nat.le_of_ble_eq_true rfl, Nat.le_of_ble_eq_true rfl⟩) hS (hw_AWsub (by decide) (fun _ _ => rfl) hS.1) (fun v H locs hp hz hk hS => ?_)
            obtain ⟨rfl, hH⟩ := hp
            have vx := va_at.kept vx (hk _ (hw_lt vx) (hw_AWn G0 (by decide) (hw_lt vx)))
            have vc := va_at.kept vc (hk _ (hw_lt vc) (hw_AWn (hw_RX_0 Rx) (by decide) (hw_lt vc)))
            refine lv_iload_n hx hb dX11_match_54 rfl (lv_at hl 2 rfl) ?_
            refine lv_iconst (v := (-1)) hx hb dX11_match_55 (by decide) ?_
            refine lv_icmp_ne (tgt := 69) hx hb dX11_match_56 (by decide) (fun c45 => ?_) (fun c45 => ?_)
            · have b46 : p1.toInt ≠ (-1) := hw_ine c45
              refine lv_aload_n hx hb dX11_match_69 rfl (lv_at hl 1 rfl) ?_
              refine hw_get hx hb fg_51_10 hK vx rfl dX11_match_70 ?_
              refine lv_iload_n hx hb dX11_match_73 rfl (lv_at hl 2 rfl) ?_
              obtain ⟨r47, pa_48, v49, R50⟩ := hH.oP (hw_RX_12 Rx)
              refine hw_cR (va_runV (As := [.int p1]) (rest := []) ⟨hx, hb, hml, hown, hts⟩ (k_X6_keyFor l D G (rx 12) p1 _ (hw_RX_12 Rx)) (cwV 1 hts gX11_match_X6_keyFor rfl rfl rfl (by decide +kernel) ⟨Nat.le_of_ble_eq_true rfl, Nat.le_of_ble_eq_true rfl⟩) (hw_pV (hw_rc (q := (RX6, TX6, 7)) hK v49 rfl) hH hK hST hS (by decide) (fun _ h => Or.inl h) trivial) rfl rfl hl.1 rfl (lv_room (Nat.le_of_ble_eq_true rfl)) dX11_match_74 ⟨Nat.le_of_ble_eq_true rfl, Nat.le_of_ble_eq_true rfl⟩) (fun v hp => ?_)
              obtain ⟨x51, rfl, g52⟩ := hp
              exact hw_iretM (v := x51) hx hb hr hlocks hQ hS rfl (⟨x51, rfl, hH, vx, vc⟩) dX11_match_77
            · have b53 : p1.toInt = (-1) := hw_ieq c45
              refine lv_aload_n hx hb dX11_match_59 rfl (lv_at hl 1 rfl) ?_
              refine hw_get hx hb fg_51_10 hK vx rfl dX11_match_60 ?_
              obtain ⟨r54, pa_55, v56, R57⟩ := hH.oP (hw_RX_12 Rx)
              refine hw_get hx hb fg_250_5 hK v56 rfl dX11_match_63 ?_
              refine lv_goto (tgt := 77) hx hb dX11_match_66 (by decide) ?_
              exact hw_iretM (v := pa_55) hx hb hr hlocks hQ hS rfl (⟨pa_55, rfl, hH, vx, vc⟩) dX11_match_77
          · have b58 : y2_36.toInt < 7 := hw_inle c39
            refine lv_aload_n hx hb dX11_match_27 rfl (lv_at hl 1 rfl) ?_
            refine hw_get hx hb fg_51_10 hK vx rfl dX11_match_28 ?_
            obtain ⟨r59, pa_60, v61, R62⟩ := hH.oP (hw_RX_12 Rx)
            refine hw_get hx hb fg_241_5 hK v61 rfl dX11_match_31 ?_
            refine lv_iload_n hx hb dX11_match_34 rfl (lv_at hl 0 rfl) ?_
            refine lv_aload_n hx hb dX11_match_35 rfl (lv_at hl 1 rfl) ?_
            refine lv_iload_n hx hb dX11_match_36 rfl (lv_at hl 0 rfl) ?_
            refine hw_cR (va_runV (As := [.int y2_36]) (rest := [.int y2_36, .ref (r59 0)]) ⟨hx, hb, hml, hown, hts⟩ (k_X11_usableKeysFor l D G h0 y2_36 _ rx pn_x pc_x ks_x sc_x rc kc_c lc_c wc_c dk_c G0 Rx ⟨by first | decide | omega, by first | decide | omega⟩ Rc ⟨by first | decide | omega, by first | decide | omega⟩ ⟨by first | decide | omega, by first | decide | omega⟩ ⟨by first | decide | omega, by first | decide | omega⟩) (cwV 1 hts gX11_match_X11_usableKeysFor rfl rfl rfl (by decide +kernel) ⟨Nat.le_of_ble_eq_true rfl, Nat.le_of_ble_eq_true rfl⟩) (hw_pV (hw_rc (q := (RX11, TX11, 14)) hK vx rfl) hH hK hST hS (by decide) (fun _ h => Or.inl h) ⟨vx, vc⟩) rfl rfl hl.1 rfl (lv_room (Nat.le_of_ble_eq_true rfl)) dX11_match_37 ⟨Nat.le_of_ble_eq_true rfl, Nat.le_of_ble_eq_true rfl⟩) (fun v hp => ?_)
            obtain ⟨x63, rfl, q64⟩ := hp
            obtain ⟨f65, v66⟩ := hH.a13 (hw_RP_0 R62)
            refine hw_iast hx hb hK hH v66 (hw_in (by omega) (by omega)) (fun _ => by rw [(hw_RP_0 R62)]; exact ⟨_, rfl⟩) hS (hw_AWi (hw_RP_0 R62) (by decide)) dX11_match_40 (fun H locs hH v66 oq hz hS => ?_)
            have vx := va_at.kept vx (oq _ (hw_ne G0 (hw_RP_0 R62) (by decide)))
            have vc := va_at.kept vc (oq _ (hw_ne (hw_RX_0 Rx) (hw_RP_0 R62) (by decide)))
            have v61 := va_at.kept v61 (oq _ (hw_ne (hw_RX_12 Rx) (hw_RP_0 R62) (by decide)))
            obtain ⟨x68, e69⟩ : ∃ y : Int32, y = y2_36 + 1 := ⟨_, rfl⟩
            refine lv_iinc (v := x68) (lv' := [(2, .int x68), (0, .ref h0), (1, .int p1)]) hx hb dX11_match_41 hl (k := 0) rfl (by rw [e69]; rfl) (by decide) rfl (fun ls hl => ?_)
            have t70 : x68.toInt = y2_36.toInt + 1 := by rw [e69]; exact hw_add rfl rfl (by omega) (by omega)
            refine lv_goto (tgt := 21) hx hb dX11_match_44 (by decide) ?_
            exact ih21 x68 (by first | omega | omega) ⟨by first | decide | omega, by first | decide | omega⟩ _ _ hH vx vc hS _ (lv_sub hl [0, 1, 2] rfl)
      exact L21 _ 0 (Nat.lt_succ_self _) ⟨by first | decide | omega, by first | decide | omega⟩ _ _ hH vx vc hS _ (lv_sub hl [0, 1, 2] rfl)

set_option maxHeartbeats 4000000 in
set_option maxRecDepth 100000 in
theorem k_X11_work (l : Launch) (D : hw_D) (G : Nat → Nat) (h0 : Nat) (p1 : Int32) (sz : Nat) (G0 : G h0 = 1) : Met l yX11_work wsX11_work ({ frames := 6, cells := 0, slots := 0, locals := 135 } : Room) (hw_PC D G [.ref h0, .int p1] sz (fun H => True)) (hw_QM (fun v H => (v = some (.int (-3)) ∧ hw_HT D G H ∧ (p1.toInt < 1 ∨ 7 < p1.toInt)) ∨ (∃ (r : Int32), v = some (.int r) ∧ hw_HT D G H ∧ (1 ≤ p1.toInt ∧ p1.toInt ≤ 7))) (hw_AW G [16, 17, 18] sz)) 0 0 (hw_AW G [16, 17, 18] sz) := by
  refine hw_met (cc := cX11_work) (maxL := 4) (ret := (some .int)) (plainFor_of_name (by decide)) rfl (Nat.le_of_ble_eq_true rfl) ?_
  intro p e s m args below meth c QQ ls hsz hx hb hml hr hts hown hlocks hnm hH hK hST hF hQ hl
  subst hsz
  have hS : va_S (hw_AW G [16, 17, 18] s.heap.size) s.heap s.heap [] := va_S.rf
  have hl : lv_has ls 4 [(0, .ref h0), (1, .int p1)] := hl
  have u_10 : ∀ w ∈ u_ws RX11 TX11 14, w.before args s = true := fun w hw => hts w ((by decide +kernel : ∀ w ∈ u_ws RX11 TX11 14, w ∈ wsX11_work) w hw)
  have fg_10_10 : hw_FG s args m 10 10 0 := ⟨RX11, "WardWalkers", RX11, TX11, 14, u_10, hown, rfl, by decide, (hts (.fieldLink RX11 10 "WardWalkers" "country" "LWardWalkers$Country;") (by decide +kernel)), (fun _ h9 => h9)⟩
  have u_1 : ∀ w ∈ u_ws RX1 TX1 7, w.before args s = true := fun w hw => hts w ((by decide +kernel : ∀ w ∈ u_ws RX1 TX1 7, w ∈ wsX11_work) w hw)
  have fg_256_1 : hw_FG s args m 256 1 3 := ⟨RX11, "WardWalkers$Country", RX1, TX1, 7, u_1, hown, rfl, by decide, (hts (.fieldLink RX11 256 "WardWalkers$Country" "lockCount" "I") (by decide +kernel)), (fun _ h9 => h9)⟩
  have fg_51_10 : hw_FG s args m 51 10 12 := ⟨RX11, "WardWalkers", RX11, TX11, 14, u_10, hown, rfl, by decide, (hts (.fieldLink RX11 51 "WardWalkers" "planner" "LWardWalkers$Planner;") (by decide +kernel)), (fun _ h9 => h9)⟩
  have fg_262_1 : hw_FG s args m 262 1 5 := ⟨RX11, "WardWalkers$Country", RX1, TX1, 7, u_1, hown, rfl, by decide, (hts (.fieldLink RX11 262 "WardWalkers$Country" "walkerCount" "I") (by decide +kernel)), (fun _ h9 => h9)⟩
  have fg_26_10 : hw_FG s args m 26 10 2 := ⟨RX11, "WardWalkers", RX11, TX11, 14, u_10, hown, rfl, by decide, (hts (.fieldLink RX11 26 "WardWalkers" "now" "LWardWalkers$Standing;") (by decide +kernel)), (fun _ h9 => h9)⟩
  refine lv_iload_n hx hb dX11_work_0 rfl (lv_at hl 1 rfl) ?_
  refine lv_iconst (v := 1) hx hb dX11_work_1 (by decide) ?_
  refine lv_icmp_lt (tgt := 11) hx hb dX11_work_2 (by decide) (fun c1 => ?_) (fun c1 => ?_)
  · have b2 : p1.toInt < 1 := hw_ilt c1
    refine lv_bipush (v := (-3)) hx hb dX11_work_11 (by decide) ?_
    exact hw_iretM (v := (-3)) hx hb hr hlocks hQ hS rfl (Or.inl ⟨rfl, hH, (by first | rfl | trivial | assumption | omega | (intros; first | rfl | assumption | omega | (exfalso; omega)))⟩) dX11_work_13
  · have b3 : 1 ≤ p1.toInt := hw_inlt c1
    refine lv_iload_n hx hb dX11_work_5 rfl (lv_at hl 1 rfl) ?_
    refine lv_bipush (v := 7) hx hb dX11_work_6 (by decide) ?_
    refine lv_icmp_le (tgt := 14) hx hb dX11_work_8 (by decide) (fun c4 => ?_) (fun c4 => ?_)
    · have b5 : p1.toInt ≤ 7 := hw_ile c4
      refine lv_iconst (v := 0) hx hb dX11_work_14 (by decide) ?_
      refine lv_istore_n (lv' := [(2, .int 0), (0, .ref h0), (1, .int p1)]) hx hb dX11_work_15 rfl hl (by decide) rfl (fun ls hl => ?_)
      refine lv_iconst (v := 0) hx hb dX11_work_16 (by decide) ?_
      refine lv_istore_n (lv' := [(3, .int 0), (2, .int 0), (0, .ref h0), (1, .int p1)]) hx hb dX11_work_17 rfl hl (by decide) rfl (fun ls hl => ?_)
      have L18 : ∀ (n9 : Nat) (y3_6 : Int32) (y2_7 : Int32) (hm : (7 - y3_6.toInt).toNat < n9) (g8 : 0 ≤ y3_6.toInt ∧ y3_6.toInt ≤ 7) (H : Heap) (locs : List Loc) (hH : hw_HT D G H) (hS : va_S (hw_AW G [16, 17, 18] s.heap.size) s.heap H locs) (ls : Array Slot) (hl : lv_has ls 4 [(3, .int y3_6), (2, .int y2_7), (0, .ref h0), (1, .int p1)]), W p l e ({ frames := 6, cells := 0, slots := 0, locals := 135 } : Room) s m args below meth c H locs 0 0 QQ (F0 m 18 ls []) := by
        intro n9
        induction n9 with
        | zero => intro y3_6 y2_7 hm; exact absurd hm (Nat.not_lt_zero _)
        | succ n9 ih18 =>
          intro y3_6 y2_7 hm g8 H locs hH hS ls hl
          refine lv_iload_n hx hb dX11_work_18 rfl (lv_at hl 0 rfl) ?_
          refine lv_aload_n hx hb dX11_work_19 rfl (lv_at hl 2 rfl) ?_
          obtain ⟨r10, pn_11, pc_12, ks_13, sc_14, v15, R16, g17⟩ := hH.oX G0
          refine hw_get hx hb fg_10_10 hK v15 rfl dX11_work_20 ?_
          obtain ⟨r18, kc_19, lc_20, wc_21, dk_22, v23, R24, g25, g26, g27⟩ := hH.oC (hw_RX_0 R16)
          refine hw_get hx hb fg_256_1 hK v23 rfl dX11_work_23 ?_
          refine lv_icmp_ge (tgt := 49) hx hb dX11_work_26 (by decide) (fun c28 => ?_) (fun c28 => ?_)
          · have b29 : lc_20.toInt ≤ y3_6.toInt := hw_ile c28
            refine lv_aload_n hx hb dX11_work_49 rfl (lv_at hl 2 rfl) ?_
            refine hw_get hx hb fg_51_10 hK v15 rfl dX11_work_50 ?_
            obtain ⟨r30, pa_31, v32, R33⟩ := hH.oP (hw_RX_12 R16)
            refine hw_cM0 (va_runV (As := []) (rest := []) ⟨hx, hb, hml, hown, hts⟩ (k_X6_startWork l D G (r10 12) _ (hw_RX_12 R16)) (cwV 0 hts gX11_work_X6_startWork rfl rfl rfl (by decide +kernel) ⟨Nat.le_of_ble_eq_true rfl, Nat.le_of_ble_eq_true rfl⟩) (hw_pV (hw_rc (q := (RX6, TX6, 7)) hK v32 rfl) hH hK hST hS (by decide) (fun _ h => Or.inl h) trivial) rfl rfl hl.1 rfl (lv_room (Nat.le_of_ble_eq_true rfl)) dX11_work_53 ⟨Nat.le_of_ble_eq_true rfl, Nat.le_of_ble_eq_true rfl⟩) hS (hw_AWsub (by decide) (fun _ _ => rfl) hS.1) (fun v H locs hp hz hk hS => ?_)
            obtain ⟨rfl, hH⟩ := hp
            have v15 := va_at.kept v15 (hk _ (hw_lt v15) (hw_AWn G0 (by decide) (hw_lt v15)))
            have v23 := va_at.kept v23 (hk _ (hw_lt v23) (hw_AWn (hw_RX_0 R16) (by decide) (hw_lt v23)))
            have v32 := va_at.kept v32 (hk _ (hw_lt v32) (hw_AWn (hw_RX_12 R16) (by decide) (hw_lt v32)))
            refine lv_iconst (v := 0) hx hb dX11_work_56 (by decide) ?_
            refine lv_istore_n (lv' := [(3, .int 0), (2, .int y2_7), (0, .ref h0), (1, .int p1)]) hx hb dX11_work_57 rfl hl (by decide) rfl (fun ls hl => ?_)
            have L58 : ∀ (n36 : Nat) (y3_34 : Int32) (hm : (3 - y3_34.toInt).toNat < n36) (g35 : 0 ≤ y3_34.toInt ∧ y3_34.toInt ≤ 3) (H : Heap) (locs : List Loc) (hH : hw_HT D G H) (hS : va_S (hw_AW G [16, 17, 18] s.heap.size) s.heap H locs) (ls : Array Slot) (hl : lv_has ls 4 [(3, .int y3_34), (2, .int y2_7), (0, .ref h0), (1, .int p1)]), W p l e ({ frames := 6, cells := 0, slots := 0, locals := 135 } : Room) s m args below meth c H locs 0 0 QQ (F0 m 58 ls []) := by
              intro n36
              induction n36 with
              | zero => intro y3_34 hm; exact absurd hm (Nat.not_lt_zero _)
              | succ n36 ih58 =>
                intro y3_34 hm g35 H locs hH hS ls hl
                refine lv_iload_n hx hb dX11_work_58 rfl (lv_at hl 0 rfl) ?_
                refine lv_aload_n hx hb dX11_work_59 rfl (lv_at hl 2 rfl) ?_
                obtain ⟨r37, pn_38, pc_39, ks_40, sc_41, v42, R43, g44⟩ := hH.oX G0
                refine hw_get hx hb fg_10_10 hK v42 rfl dX11_work_60 ?_
                obtain ⟨r45, kc_46, lc_47, wc_48, dk_49, v50, R51, g52, g53, g54⟩ := hH.oC (hw_RX_0 R43)
                refine hw_get hx hb fg_262_1 hK v50 rfl dX11_work_63 ?_
                refine lv_icmp_ge (tgt := 111) hx hb dX11_work_66 (by decide) (fun c55 => ?_) (fun c55 => ?_)
                · have b56 : wc_48.toInt ≤ y3_34.toInt := hw_ile c55
                  refine lv_aload_n hx hb dX11_work_111 rfl (lv_at hl 2 rfl) ?_
                  refine hw_get hx hb fg_51_10 hK v42 rfl dX11_work_112 ?_
                  refine lv_iload_n hx hb dX11_work_115 rfl (lv_at hl 3 rfl) ?_
                  obtain ⟨r57, pa_58, v59, R60⟩ := hH.oP (hw_RX_12 R43)
                  refine hw_cR (va_runV (As := [.int p1]) (rest := []) ⟨hx, hb, hml, hown, hts⟩ (k_X6_fewestFor l D G (r37 12) p1 _ (hw_RX_12 R43)) (cwV 1 hts gX11_work_X6_fewestFor rfl rfl rfl (by decide +kernel) ⟨Nat.le_of_ble_eq_true rfl, Nat.le_of_ble_eq_true rfl⟩) (hw_pV (hw_rc (q := (RX6, TX6, 7)) hK v59 rfl) hH hK hST hS (by decide) (fun _ h => Or.inl h) trivial) rfl rfl hl.1 rfl (lv_room (Nat.le_of_ble_eq_true rfl)) dX11_work_116 ⟨Nat.le_of_ble_eq_true rfl, Nat.le_of_ble_eq_true rfl⟩) (fun v hp => ?_)
                  obtain ⟨x61, rfl⟩ := hp
                  exact hw_iretM (v := x61) hx hb hr hlocks hQ hS rfl (Or.inr (⟨x61, rfl, hH, (by first | rfl | trivial | assumption | omega | (intros; first | rfl | assumption | omega | (exfalso; omega)))⟩)) dX11_work_119
                · have b62 : y3_34.toInt < wc_48.toInt := hw_inle c55
                  refine lv_aload_n hx hb dX11_work_69 rfl (lv_at hl 2 rfl) ?_
                  refine hw_get hx hb fg_51_10 hK v42 rfl dX11_work_70 ?_
                  refine lv_aload_n hx hb dX11_work_73 rfl (lv_at hl 2 rfl) ?_
                  refine hw_get hx hb fg_26_10 hK v42 rfl dX11_work_74 ?_
                  refine lv_iload_n hx hb dX11_work_77 rfl (lv_at hl 0 rfl) ?_
                  obtain ⟨r63, td_64, fd_65, os_66, v67, R68⟩ := hH.oS (hw_RX_2 R43)
                  refine hw_cR (va_runV (As := [.int y3_34]) (rest := [.ref (r37 12)]) ⟨hx, hb, hml, hown, hts⟩ (k_X9_placeOf l D G (r37 2) y3_34 _ (hw_RX_2 R43)) (cwV 1 hts gX11_work_X9_placeOf rfl rfl rfl (by decide +kernel) ⟨Nat.le_of_ble_eq_true rfl, Nat.le_of_ble_eq_true rfl⟩) (hw_pV (hw_rc (q := (RX9, TX9, 7)) hK v67 rfl) hH hK hST hS (by decide) (fun _ h => Or.inl h) trivial) rfl rfl hl.1 rfl (lv_room (Nat.le_of_ble_eq_true rfl)) dX11_work_78 ⟨Nat.le_of_ble_eq_true rfl, Nat.le_of_ble_eq_true rfl⟩) (fun v hp => ?_)
                  obtain ⟨x69, rfl⟩ := hp
                  refine lv_aload_n hx hb dX11_work_81 rfl (lv_at hl 2 rfl) ?_
                  refine hw_get hx hb fg_26_10 hK v42 rfl dX11_work_82 ?_
                  refine lv_iload_n hx hb dX11_work_85 rfl (lv_at hl 0 rfl) ?_
                  refine hw_cR (va_runV (As := [.int y3_34]) (rest := [.int x69, .ref (r37 12)]) ⟨hx, hb, hml, hown, hts⟩ (k_X9_minuteOf l D G (r37 2) y3_34 _ (hw_RX_2 R43)) (cwV 1 hts gX11_work_X9_minuteOf rfl rfl rfl (by decide +kernel) ⟨Nat.le_of_ble_eq_true rfl, Nat.le_of_ble_eq_true rfl⟩) (hw_pV (hw_rc (q := (RX9, TX9, 7)) hK v67 rfl) hH hK hST hS (by decide) (fun _ h => Or.inl h) trivial) rfl rfl hl.1 rfl (lv_room (Nat.le_of_ble_eq_true rfl)) dX11_work_86 ⟨Nat.le_of_ble_eq_true rfl, Nat.le_of_ble_eq_true rfl⟩) (fun v hp => ?_)
                  obtain ⟨x70, rfl⟩ := hp
                  refine lv_iload_n hx hb dX11_work_89 rfl (lv_at hl 1 rfl) ?_
                  refine lv_aload_n hx hb dX11_work_90 rfl (lv_at hl 2 rfl) ?_
                  refine hw_get hx hb fg_10_10 hK v42 rfl dX11_work_91 ?_
                  obtain ⟨r71, pa_72, v73, R74⟩ := hH.oP (hw_RX_12 R43)
                  refine hw_cM0 (va_runV (As := [.int x69, .int x70, .int y2_7, .ref (r37 0)]) (rest := []) ⟨hx, hb, hml, hown, hts⟩ (k_X6_walkFrom l D G (r37 12) x69 x70 y2_7 (r37 0) _ (hw_RX_12 R43) (hw_RX_0 R43)) (cwV 4 hts gX11_work_X6_walkFrom rfl rfl rfl (by decide +kernel) ⟨Nat.le_of_ble_eq_true rfl, Nat.le_of_ble_eq_true rfl⟩) (hw_pV (hw_rc (q := (RX6, TX6, 7)) hK v73 rfl) hH hK hST hS (by decide) (fun _ h => Or.inl h) trivial) rfl rfl hl.1 rfl (lv_room (Nat.le_of_ble_eq_true rfl)) dX11_work_94 ⟨Nat.le_of_ble_eq_true rfl, Nat.le_of_ble_eq_true rfl⟩) hS (hw_AWsub (by decide) (fun _ _ => rfl) hS.1) (fun v H locs hp hz hk hS => ?_)
                  obtain ⟨rfl, hH⟩ := hp
                  have v42 := va_at.kept v42 (hk _ (hw_lt v42) (hw_AWn G0 (by decide) (hw_lt v42)))
                  have v50 := va_at.kept v50 (hk _ (hw_lt v50) (hw_AWn (hw_RX_0 R43) (by decide) (hw_lt v50)))
                  have v67 := va_at.kept v67 (hk _ (hw_lt v67) (hw_AWn (hw_RX_2 R43) (by decide) (hw_lt v67)))
                  have v73 := va_at.kept v73 (hk _ (hw_lt v73) (hw_AWn (hw_RX_12 R43) (by decide) (hw_lt v73)))
                  refine lv_aload_n hx hb dX11_work_97 rfl (lv_at hl 2 rfl) ?_
                  refine hw_get hx hb fg_51_10 hK v42 rfl dX11_work_98 ?_
                  refine lv_iload_n hx hb dX11_work_101 rfl (lv_at hl 1 rfl) ?_
                  refine hw_cM0 (va_runV (As := [.int y2_7]) (rest := []) ⟨hx, hb, hml, hown, hts⟩ (k_X6_shareWith l D G (r37 12) y2_7 _ (hw_RX_12 R43)) (cwV 1 hts gX11_work_X6_shareWith rfl rfl rfl (by decide +kernel) ⟨Nat.le_of_ble_eq_true rfl, Nat.le_of_ble_eq_true rfl⟩) (hw_pV (hw_rc (q := (RX6, TX6, 7)) hK v73 rfl) hH hK hST hS (by decide) (fun _ h => Or.inl h) trivial) rfl rfl hl.1 rfl (lv_room (Nat.le_of_ble_eq_true rfl)) dX11_work_102 ⟨Nat.le_of_ble_eq_true rfl, Nat.le_of_ble_eq_true rfl⟩) hS (hw_AWsub (by decide) (fun _ _ => rfl) hS.1) (fun v H locs hp hz hk hS => ?_)
                  obtain ⟨rfl, hH⟩ := hp
                  have v42 := va_at.kept v42 (hk _ (hw_lt v42) (hw_AWn G0 (by decide) (hw_lt v42)))
                  have v50 := va_at.kept v50 (hk _ (hw_lt v50) (hw_AWn (hw_RX_0 R43) (by decide) (hw_lt v50)))
                  have v67 := va_at.kept v67 (hk _ (hw_lt v67) (hw_AWn (hw_RX_2 R43) (by decide) (hw_lt v67)))
                  have v73 := va_at.kept v73 (hk _ (hw_lt v73) (hw_AWn (hw_RX_12 R43) (by decide) (hw_lt v73)))
                  obtain ⟨x75, e76⟩ : ∃ y : Int32, y = y3_34 + 1 := ⟨_, rfl⟩
                  refine lv_iinc (v := x75) (lv' := [(3, .int x75), (2, .int y2_7), (0, .ref h0), (1, .int p1)]) hx hb dX11_work_105 hl (k := 0) rfl (by rw [e76]; rfl) (by decide) rfl (fun ls hl => ?_)
                  have t77 : x75.toInt = y3_34.toInt + 1 := by rw [e76]; exact hw_add rfl rfl (by omega) (by omega)
                  refine lv_goto (tgt := 58) hx hb dX11_work_108 (by decide) ?_
                  exact ih58 x75 (by first | omega | omega) ⟨by first | decide | omega, by first | decide | omega⟩ _ _ hH hS _ (lv_sub hl [0, 1, 2, 3] rfl)
            exact L58 _ 0 (Nat.lt_succ_self _) ⟨by first | decide | omega, by first | decide | omega⟩ _ _ hH hS _ (lv_sub hl [0, 1, 2, 3] rfl)
          · have b78 : y3_6.toInt < lc_20.toInt := hw_inle c28
            refine lv_aload_n hx hb dX11_work_29 rfl (lv_at hl 2 rfl) ?_
            refine lv_iload_n hx hb dX11_work_30 rfl (lv_at hl 0 rfl) ?_
            refine hw_cR (va_runV (As := [.int y3_6]) (rest := []) ⟨hx, hb, hml, hown, hts⟩ (k_X11_usableKeysFor l D G h0 y3_6 _ r10 pn_11 pc_12 ks_13 sc_14 r18 kc_19 lc_20 wc_21 dk_22 G0 R16 ⟨by first | decide | omega, by first | decide | omega⟩ R24 ⟨by first | decide | omega, by first | decide | omega⟩ ⟨by first | decide | omega, by first | decide | omega⟩ ⟨by first | decide | omega, by first | decide | omega⟩) (cwV 1 hts gX11_work_X11_usableKeysFor rfl rfl rfl (by decide +kernel) ⟨Nat.le_of_ble_eq_true rfl, Nat.le_of_ble_eq_true rfl⟩) (hw_pV (hw_rc (q := (RX11, TX11, 14)) hK v15 rfl) hH hK hST hS (by decide) (fun _ h => Or.inl h) ⟨v15, v23⟩) rfl rfl hl.1 rfl (lv_room (Nat.le_of_ble_eq_true rfl)) dX11_work_31 ⟨Nat.le_of_ble_eq_true rfl, Nat.le_of_ble_eq_true rfl⟩) (fun v hp => ?_)
            obtain ⟨x79, rfl, q80⟩ := hp
            refine lv_if_eq (tgt := 43) hx hb dX11_work_34 (by decide) (fun c81 => ?_) (fun c81 => ?_)
            · have b82 : x79.toInt = 0 := hw_ieq c81
              obtain ⟨x83, e84⟩ : ∃ y : Int32, y = y3_6 + 1 := ⟨_, rfl⟩
              refine lv_iinc (v := x83) (lv' := [(3, .int x83), (2, .int y2_7), (0, .ref h0), (1, .int p1)]) hx hb dX11_work_43 hl (k := 0) rfl (by rw [e84]; rfl) (by decide) rfl (fun ls hl => ?_)
              have t85 : x83.toInt = y3_6.toInt + 1 := by rw [e84]; exact hw_add rfl rfl (by omega) (by omega)
              refine lv_goto (tgt := 18) hx hb dX11_work_46 (by decide) ?_
              exact ih18 x83 y2_7 (by first | omega | omega) ⟨by first | decide | omega, by first | decide | omega⟩ _ _ hH hS _ (lv_sub hl [0, 1, 2, 3] rfl)
            · have b86 : x79.toInt ≠ 0 := hw_ine c81
              refine lv_iload_n hx hb dX11_work_37 rfl (lv_at hl 1 rfl) ?_
              refine lv_iconst (v := 1) hx hb dX11_work_38 (by decide) ?_
              refine lv_iload_n hx hb dX11_work_39 rfl (lv_at hl 0 rfl) ?_
              refine lv_ishl hx hb dX11_work_40 ?_
              refine lv_topi (fun x87 e88 => ?_)
              have t89 : 1 ≤ x87.toInt ∧ x87.toInt ≤ 64 := by rw [e88]; exact hw_sh1b 6 (by decide) (by first | decide | omega) (by first | decide | omega)
              refine lv_ior hx hb dX11_work_41 ?_
              refine lv_topi (fun x90 e91 => ?_)
              refine lv_istore_n (lv' := [(2, .int x90), (3, .int y3_6), (0, .ref h0), (1, .int p1)]) hx hb dX11_work_42 rfl hl (by decide) rfl (fun ls hl => ?_)
              obtain ⟨x92, e93⟩ : ∃ y : Int32, y = y3_6 + 1 := ⟨_, rfl⟩
              refine lv_iinc (v := x92) (lv' := [(3, .int x92), (2, .int x90), (0, .ref h0), (1, .int p1)]) hx hb dX11_work_43 hl (k := 1) rfl (by rw [e93]; rfl) (by decide) rfl (fun ls hl => ?_)
              have t94 : x92.toInt = y3_6.toInt + 1 := by rw [e93]; exact hw_add rfl rfl (by omega) (by omega)
              refine lv_goto (tgt := 18) hx hb dX11_work_46 (by decide) ?_
              exact ih18 x92 x90 (by first | omega | omega) ⟨by first | decide | omega, by first | decide | omega⟩ _ _ hH hS _ (lv_sub hl [0, 1, 2, 3] rfl)
      exact L18 _ 0 0 (Nat.lt_succ_self _) ⟨by first | decide | omega, by first | decide | omega⟩ _ _ hH hS _ (lv_sub hl [0, 1, 2, 3] rfl)
    · have b95 : 7 < p1.toInt := hw_inle c4
      refine lv_bipush (v := (-3)) hx hb dX11_work_11 (by decide) ?_
      exact hw_iretM (v := (-3)) hx hb hr hlocks hQ hS rfl (Or.inl ⟨rfl, hH, (by first | rfl | trivial | assumption | omega | (intros; first | rfl | assumption | omega | (exfalso; omega)))⟩) dX11_work_13

set_option maxHeartbeats 4000000 in
set_option maxRecDepth 100000 in
theorem k_X11_cuts (l : Launch) (D : hw_D) (G : Nat → Nat) (h0 : Nat) (p1 : Int32) (sz : Nat) (rx : Nat → Nat) (pn_x pc_x ks_x sc_x : Int32) (G0 : G h0 = 1) (Rx : hw_RX G rx) (gsc_x : 0 ≤ sc_x.toInt ∧ sc_x.toInt ≤ 6) : Met l yX11_cuts wsX11_cuts ({ frames := 4, cells := 0, slots := 0, locals := 85 } : Room) (hw_PC D G [.ref h0, .int p1] sz (fun H => va_at D.1 vwCl (h0, .inr (10, hw_LX rx pn_x pc_x ks_x sc_x)) H)) (hw_QR (fun v => (v = .int (-3) ∧ (p1.toInt < 0 ∨ 2 < p1.toInt)) ∨ (∃ (r : Int32), v = .int r ∧ (0 ≤ p1.toInt ∧ p1.toInt ≤ 2) ∧ (sc_x.toInt = 0 → p1.toInt = 0 → r.toInt = 512) ∧ (sc_x.toInt = 0 → p1.toInt = 1 → r.toInt = 0) ∧ (sc_x.toInt = 0 → p1.toInt = 2 → r.toInt = 511)))) 0 0 (fun _ => False) := by
  refine hw_met (cc := cX11_cuts) (maxL := 6) (ret := (some .int)) (plainFor_of_name (by decide)) rfl (Nat.le_of_ble_eq_true rfl) ?_
  intro p e s m args below meth c QQ ls hsz hx hb hml hr hts hown hlocks hnm hH hK hST hF hQ hl
  subst hsz
  have hS : va_S (hw_AW G [] s.heap.size) s.heap s.heap [] := va_S.rf
  have vx := hF
  have hl : lv_has ls 6 [(0, .ref h0), (1, .int p1)] := hl
  refine lv_iload_n hx hb dX11_cuts_0 rfl (lv_at hl 1 rfl) ?_
  refine lv_if_lt (tgt := 9) hx hb dX11_cuts_1 (by decide) (fun c1 => ?_) (fun c1 => ?_)
  · have b2 : p1.toInt < 0 := hw_ilt c1
    refine lv_bipush (v := (-3)) hx hb dX11_cuts_9 (by decide) ?_
    exact hw_iretR (v := (-3)) hx hb hr hlocks hQ rfl (Or.inl ⟨rfl, (by first | rfl | trivial | assumption | omega | (intros; first | rfl | assumption | omega | (exfalso; omega)))⟩) dX11_cuts_11
  · have b3 : 0 ≤ p1.toInt := hw_inlt c1
    refine lv_iload_n hx hb dX11_cuts_4 rfl (lv_at hl 1 rfl) ?_
    refine lv_iconst (v := 2) hx hb dX11_cuts_5 (by decide) ?_
    refine lv_icmp_le (tgt := 12) hx hb dX11_cuts_6 (by decide) (fun c4 => ?_) (fun c4 => ?_)
    · have b5 : p1.toInt ≤ 2 := hw_ile c4
      refine lv_iconst (v := 0) hx hb dX11_cuts_12 (by decide) ?_
      refine lv_istore_n (lv' := [(2, .int 0), (0, .ref h0), (1, .int p1)]) hx hb dX11_cuts_13 rfl hl (by decide) rfl (fun ls hl => ?_)
      refine lv_sipush (v := 511) hx hb dX11_cuts_14 (by decide) ?_
      refine lv_istore_n (lv' := [(3, .int 511), (2, .int 0), (0, .ref h0), (1, .int p1)]) hx hb dX11_cuts_17 rfl hl (by decide) rfl (fun ls hl => ?_)
      refine lv_iconst (v := 0) hx hb dX11_cuts_18 (by decide) ?_
      refine lv_istore (lv' := [(4, .int 0), (3, .int 511), (2, .int 0), (0, .ref h0), (1, .int p1)]) hx hb dX11_cuts_19 hl (by decide) rfl (fun ls hl => ?_)
      refine lv_iconst (v := 0) hx hb dX11_cuts_21 (by decide) ?_
      refine lv_istore (lv' := [(5, .int 0), (4, .int 0), (3, .int 511), (2, .int 0), (0, .ref h0), (1, .int p1)]) hx hb dX11_cuts_22 hl (by decide) rfl (fun ls hl => ?_)
      have L24 : ∀ (n12 : Nat) (y5_6 : Int32) (y4_7 : Int32) (y3_8 : Int32) (y2_9 : Int32) (hm : (512 - y5_6.toInt).toNat < n12) (g10 : 0 ≤ y2_9.toInt ∧ y2_9.toInt ≤ 512) (g11 : 0 ≤ y5_6.toInt ∧ y5_6.toInt ≤ 512) (inv24_0 : sc_x.toInt = 0 → y2_9.toInt = y5_6.toInt) (inv24_1 : sc_x.toInt = 0 → y3_8 = hw_andU y5_6.toNatClampNeg) (inv24_2 : sc_x.toInt = 0 → y4_7 = hw_orU y5_6.toNatClampNeg) (inv24_3 : 0 ≤ y2_9.toInt ∧ y2_9.toInt ≤ y5_6.toInt) (ls : Array Slot) (hl : lv_has ls 6 [(5, .int y5_6), (4, .int y4_7), (3, .int y3_8), (2, .int y2_9), (0, .ref h0), (1, .int p1)]), W p l e ({ frames := 4, cells := 0, slots := 0, locals := 85 } : Room) s m args below meth c s.heap [] 0 0 QQ (F0 m 24 ls []) := by
        intro n12
        induction n12 with
        | zero => intro y5_6 y4_7 y3_8 y2_9 hm; exact absurd hm (Nat.not_lt_zero _)
        | succ n12 ih24 =>
          intro y5_6 y4_7 y3_8 y2_9 hm g10 g11 inv24_0 inv24_1 inv24_2 inv24_3 ls hl
          refine lv_iload hx hb dX11_cuts_24 (lv_at hl 0 rfl) ?_
          refine lv_sipush (v := 511) hx hb dX11_cuts_26 (by decide) ?_
          refine lv_icmp_gt (tgt := 62) hx hb dX11_cuts_29 (by decide) (fun c13 => ?_) (fun c13 => ?_)
          · have b14 : 511 < y5_6.toInt := hw_ilt c13
            refine lv_iload_n hx hb dX11_cuts_62 rfl (lv_at hl 5 rfl) ?_
            refine lv_if_eq (tgt := 70) hx hb dX11_cuts_63 (by decide) (fun c15 => ?_) (fun c15 => ?_)
            · have b16 : p1.toInt = 0 := hw_ieq c15
              refine lv_iload_n hx hb dX11_cuts_70 rfl (lv_at hl 3 rfl) ?_
              exact hw_iretR (v := y2_9) hx hb hr hlocks hQ rfl (Or.inr (⟨y2_9, rfl, (by first | rfl | trivial | assumption | omega | (intros; first | rfl | assumption | omega | (exfalso; omega))), (by first | rfl | trivial | assumption | omega | (intros; first | rfl | assumption | omega | (exfalso; omega))), (by intro h9 h8; first | (exfalso; omega) | (have h7 := inv24_1 h9; rw [hw_cl (x := y5_6) (n := 512) (by omega), hw_andU_512] at h7; exact hw_ieq h7)), (by intro h9 h8; first | (exfalso; omega) | (have h7 := inv24_2 h9; rw [hw_cl (x := y5_6) (n := 512) (by omega), hw_orU_512] at h7; exact hw_ieq h7))⟩)) dX11_cuts_71
            · have b17 : p1.toInt ≠ 0 := hw_ine c15
              refine lv_iload_n hx hb dX11_cuts_66 rfl (lv_at hl 3 rfl) ?_
              refine lv_if_ne (tgt := 72) hx hb dX11_cuts_67 (by decide) (fun c18 => ?_) (fun c18 => ?_)
              · have b19 : y2_9.toInt ≠ 0 := hw_ine c18
                refine lv_iload_n hx hb dX11_cuts_72 rfl (lv_at hl 5 rfl) ?_
                refine lv_iconst (v := 1) hx hb dX11_cuts_73 (by decide) ?_
                refine lv_icmp_ne (tgt := 81) hx hb dX11_cuts_74 (by decide) (fun c20 => ?_) (fun c20 => ?_)
                · have b21 : p1.toInt ≠ 1 := hw_ine c20
                  refine lv_iload hx hb dX11_cuts_81 (lv_at hl 1 rfl) ?_
                  exact hw_iretR (v := y4_7) hx hb hr hlocks hQ rfl (Or.inr (⟨y4_7, rfl, (by first | rfl | trivial | assumption | omega | (intros; first | rfl | assumption | omega | (exfalso; omega))), (by first | rfl | trivial | assumption | omega | (intros; first | rfl | assumption | omega | (exfalso; omega))), (by intro h9 h8; first | (exfalso; omega) | (have h7 := inv24_1 h9; rw [hw_cl (x := y5_6) (n := 512) (by omega), hw_andU_512] at h7; exact hw_ieq h7)), (by intro h9 h8; first | (exfalso; omega) | (have h7 := inv24_2 h9; rw [hw_cl (x := y5_6) (n := 512) (by omega), hw_orU_512] at h7; exact hw_ieq h7))⟩)) dX11_cuts_83
                · have b22 : p1.toInt = 1 := hw_ieq c20
                  refine lv_iload_n hx hb dX11_cuts_77 rfl (lv_at hl 2 rfl) ?_
                  refine lv_goto (tgt := 83) hx hb dX11_cuts_78 (by decide) ?_
                  exact hw_iretR (v := y3_8) hx hb hr hlocks hQ rfl (Or.inr (⟨y3_8, rfl, (by first | rfl | trivial | assumption | omega | (intros; first | rfl | assumption | omega | (exfalso; omega))), (by first | rfl | trivial | assumption | omega | (intros; first | rfl | assumption | omega | (exfalso; omega))), (by intro h9 h8; first | (exfalso; omega) | (have h7 := inv24_1 h9; rw [hw_cl (x := y5_6) (n := 512) (by omega), hw_andU_512] at h7; exact hw_ieq h7)), (by intro h9 h8; first | (exfalso; omega) | (have h7 := inv24_2 h9; rw [hw_cl (x := y5_6) (n := 512) (by omega), hw_orU_512] at h7; exact hw_ieq h7))⟩)) dX11_cuts_83
              · have b23 : y2_9.toInt = 0 := hw_ieq c18
                refine lv_iload_n hx hb dX11_cuts_70 rfl (lv_at hl 3 rfl) ?_
                exact hw_iretR (v := y2_9) hx hb hr hlocks hQ rfl (Or.inr (⟨y2_9, rfl, (by first | rfl | trivial | assumption | omega | (intros; first | rfl | assumption | omega | (exfalso; omega))), (by first | rfl | trivial | assumption | omega | (intros; first | rfl | assumption | omega | (exfalso; omega))), (by intro h9 h8; first | (exfalso; omega) | (have h7 := inv24_1 h9; rw [hw_cl (x := y5_6) (n := 512) (by omega), hw_andU_512] at h7; exact hw_ieq h7)), (by intro h9 h8; first | (exfalso; omega) | (have h7 := inv24_2 h9; rw [hw_cl (x := y5_6) (n := 512) (by omega), hw_orU_512] at h7; exact hw_ieq h7))⟩)) dX11_cuts_71
          · have b24 : y5_6.toInt ≤ 511 := hw_inlt c13
            refine lv_aload_n hx hb dX11_cuts_32 rfl (lv_at hl 4 rfl) ?_
            refine lv_iload hx hb dX11_cuts_33 (lv_at hl 0 rfl) ?_
            refine hw_cR (va_runV (As := [.int y5_6]) (rest := []) ⟨hx, hb, hml, hown, hts⟩ (k_X11_isCutAsSeen l D G h0 y5_6 _ rx pn_x pc_x ks_x sc_x G0 Rx ⟨by first | decide | omega, by first | decide | omega⟩) (cwV 1 hts gX11_cuts_X11_isCutAsSeen rfl rfl rfl (by decide +kernel) ⟨Nat.le_of_ble_eq_true rfl, Nat.le_of_ble_eq_true rfl⟩) (hw_pV (hw_rc (q := (RX11, TX11, 14)) hK vx rfl) hH hK hST hS (by decide) (fun _ h => Or.inl h) vx) rfl rfl hl.1 rfl (lv_room (Nat.le_of_ble_eq_true rfl)) dX11_cuts_35 ⟨Nat.le_of_ble_eq_true rfl, Nat.le_of_ble_eq_true rfl⟩) (fun v hp => ?_)
            rcases hp with rfl | ⟨rfl, q25⟩
            · refine lv_if_eq (tgt := 56) hx hb dX11_cuts_38 (by decide) (fun c26 => ?_) (fun c26 => ?_)
              · exact absurd c26 (by decide)
              · obtain ⟨x27, e28⟩ : ∃ y : Int32, y = y2_9 + 1 := ⟨_, rfl⟩
                refine lv_iinc (v := x27) (lv' := [(2, .int x27), (5, .int y5_6), (4, .int y4_7), (3, .int y3_8), (0, .ref h0), (1, .int p1)]) hx hb dX11_cuts_41 hl (k := 3) rfl (by rw [e28]; rfl) (by decide) rfl (fun ls hl => ?_)
                have t29 : x27.toInt = y2_9.toInt + 1 := by rw [e28]; exact hw_add rfl rfl (by omega) (by omega)
                refine lv_iload_n hx hb dX11_cuts_44 rfl (lv_at hl 3 rfl) ?_
                refine lv_iload hx hb dX11_cuts_45 (lv_at hl 1 rfl) ?_
                refine lv_iand hx hb dX11_cuts_47 ?_
                refine lv_topi (fun x30 e31 => ?_)
                have t32 : 0 ≤ x30.toInt ∧ x30.toInt ≤ y5_6.toInt := by rw [e31]; exact hw_and (by first | decide | omega)
                refine lv_istore_n (lv' := [(3, .int x30), (2, .int x27), (5, .int y5_6), (4, .int y4_7), (0, .ref h0), (1, .int p1)]) hx hb dX11_cuts_48 rfl hl (by decide) rfl (fun ls hl => ?_)
                refine lv_iload hx hb dX11_cuts_49 (lv_at hl 3 rfl) ?_
                refine lv_iload hx hb dX11_cuts_51 (lv_at hl 2 rfl) ?_
                refine lv_ior hx hb dX11_cuts_53 ?_
                refine lv_topi (fun x33 e34 => ?_)
                refine lv_istore (lv' := [(4, .int x33), (3, .int x30), (2, .int x27), (5, .int y5_6), (0, .ref h0), (1, .int p1)]) hx hb dX11_cuts_54 hl (by decide) rfl (fun ls hl => ?_)
                obtain ⟨x35, e36⟩ : ∃ y : Int32, y = y5_6 + 1 := ⟨_, rfl⟩
                refine lv_iinc (v := x35) (lv' := [(5, .int x35), (4, .int x33), (3, .int x30), (2, .int x27), (0, .ref h0), (1, .int p1)]) hx hb dX11_cuts_56 hl (k := 3) rfl (by rw [e36]; rfl) (by decide) rfl (fun ls hl => ?_)
                have t37 : x35.toInt = y5_6.toInt + 1 := by rw [e36]; exact hw_add rfl rfl (by omega) (by omega)
                refine lv_goto (tgt := 24) hx hb dX11_cuts_59 (by decide) ?_
                exact ih24 x35 x33 x30 x27 (by first | omega | omega) ⟨by first | decide | omega, by first | decide | omega⟩ ⟨by first | decide | omega, by first | decide | omega⟩ (by first | assumption | omega | decide | rfl | (intros; first | rfl | assumption | omega)) (by intro h9; first | (exfalso; omega) | (rw [hw_cls (x := y5_6) (by omega) (by omega)]; show x30 = hw_andU y5_6.toNatClampNeg &&& nI y5_6.toNatClampNeg; rw [hw_nIc (by omega) (by omega), ← inv24_1 h9]; exact e31)) (by intro h9; first | (exfalso; omega) | (rw [hw_cls (x := y5_6) (by omega) (by omega)]; show x33 = hw_orU y5_6.toNatClampNeg ||| nI y5_6.toNatClampNeg; rw [hw_nIc (by omega) (by omega), ← inv24_2 h9]; exact e34)) (by first | assumption | omega | decide | rfl | (intros; first | rfl | assumption | omega)) _ (lv_sub hl [0, 1, 2, 3, 4, 5] rfl)
            · refine lv_if_eq (tgt := 56) hx hb dX11_cuts_38 (by decide) (fun c38 => ?_) (fun c38 => ?_)
              · obtain ⟨x39, e40⟩ : ∃ y : Int32, y = y5_6 + 1 := ⟨_, rfl⟩
                refine lv_iinc (v := x39) (lv' := [(5, .int x39), (4, .int y4_7), (3, .int y3_8), (2, .int y2_9), (0, .ref h0), (1, .int p1)]) hx hb dX11_cuts_56 hl (k := 0) rfl (by rw [e40]; rfl) (by decide) rfl (fun ls hl => ?_)
                have t41 : x39.toInt = y5_6.toInt + 1 := by rw [e40]; exact hw_add rfl rfl (by omega) (by omega)
                refine lv_goto (tgt := 24) hx hb dX11_cuts_59 (by decide) ?_
                exact ih24 x39 y4_7 y3_8 y2_9 (by first | omega | omega) ⟨by first | decide | omega, by first | decide | omega⟩ ⟨by first | decide | omega, by first | decide | omega⟩ (by first | assumption | omega | decide | rfl | (intros; first | rfl | assumption | omega)) (by intro h9; first | (exfalso; omega) | (rw [hw_cls (x := y5_6) (by omega) (by omega)]; show y3_8 = hw_andU y5_6.toNatClampNeg &&& nI y5_6.toNatClampNeg; rw [hw_nIc (by omega) (by omega), ← inv24_1 h9]; exact rfl)) (by intro h9; first | (exfalso; omega) | (rw [hw_cls (x := y5_6) (by omega) (by omega)]; show y4_7 = hw_orU y5_6.toNatClampNeg ||| nI y5_6.toNatClampNeg; rw [hw_nIc (by omega) (by omega), ← inv24_2 h9]; exact rfl)) (by first | assumption | omega | decide | rfl | (intros; first | rfl | assumption | omega)) _ (lv_sub hl [0, 1, 2, 3, 4, 5] rfl)
              · exact absurd c38 (by decide)
      exact L24 _ 0 0 511 0 (Nat.lt_succ_self _) ⟨by first | decide | omega, by first | decide | omega⟩ ⟨by first | decide | omega, by first | decide | omega⟩ (by intro _; rfl) (by intro _; rfl) (by intro _; rfl) (by decide) _ (lv_sub hl [0, 1, 2, 3, 4, 5] rfl)
    · have b42 : 2 < p1.toInt := hw_inle c4
      refine lv_bipush (v := (-3)) hx hb dX11_cuts_9 (by decide) ?_
      exact hw_iretR (v := (-3)) hx hb hr hlocks hQ rfl (Or.inl ⟨rfl, (by first | rfl | trivial | assumption | omega | (intros; first | rfl | assumption | omega | (exfalso; omega)))⟩) dX11_cuts_11

set_option maxHeartbeats 4000000 in
set_option maxRecDepth 100000 in
theorem k_X11_count (l : Launch) (D : hw_D) (G : Nat → Nat) (h0 : Nat) (p1 : Int32) (sz : Nat) (la : Nat → Int32) (sz9 : Nat → Int32) (rx : Nat → Nat) (pn_x pc_x ks_x sc_x : Int32) (rc : Nat → Nat) (kc_c lc_c wc_c dk_c : Int32) (rt : Nat → Nat) (ln_t cl_t st_t en_t kf_t lf_t wf_t : Int32) (rn : Nat → Nat) (td_n fd_n os_n : Int32) (fq : Nat → Option Nat) (G0 : G h0 = 1) (Rx : hw_RX G rx) (gsc_x : 0 ≤ sc_x.toInt ∧ sc_x.toInt ≤ 6) (Rc : hw_RC G rc) (gkc_c : 0 ≤ kc_c.toInt ∧ kc_c.toInt ≤ 7) (glc_c : 0 ≤ lc_c.toInt ∧ lc_c.toInt ≤ 7) (gwc_c : 0 ≤ wc_c.toInt ∧ wc_c.toInt ≤ 3) (Rt : hw_RT G rt) (gln_t : 0 ≤ ln_t.toInt ∧ ln_t.toInt ≤ 200) (gcl_t : 0 ≤ cl_t.toInt ∧ cl_t.toInt ≤ 20) (gst_t : 0 ≤ st_t.toInt ∧ st_t.toInt ≤ 200) (gen_t : 0 ≤ en_t.toInt ∧ en_t.toInt ≤ 200) (Rn : hw_RS G rn) (qq : ∀ j, j < 4 → ∃ b, fq j = some b ∧ G b = 6) : Met l yX11_count wsX11_count ({ frames := 3, cells := 0, slots := 0, locals := 64 } : Room) (hw_PC D G [.ref h0, .int p1] sz (fun H => va_at D.1 vwCl (h0, .inr (10, hw_LX rx pn_x pc_x ks_x sc_x)) H ∧ va_at D.1 vwCl ((rx 0), .inr (1, hw_LC rc kc_c lc_c wc_c dk_c)) H ∧ va_at D.1 vwCl ((rx 1), .inr (9, hw_LT rt ln_t cl_t st_t en_t kf_t lf_t wf_t)) H ∧ va_at D.1 vwCl ((rx 2), .inr (8, hw_LS rn td_n fd_n os_n)) H ∧ va_at D.1 vwCl ((rx 13), .inl (D.2.1 7, 4, .inr (.inr (.inr (.inr fq))))) H ∧ hw_Racks D G fq la sz9 H)) (hw_QR (fun v => ∃ (r : Int32), v = .int r ∧ ((p1.toInt < 0 ∨ 12 < p1.toInt) → r.toInt = -3) ∧ (p1.toInt = 0 → r.toInt = kc_c.toInt) ∧ (p1.toInt = 1 → r.toInt = lc_c.toInt) ∧ (p1.toInt = 2 → r.toInt = wc_c.toInt) ∧ (p1.toInt = 3 → r.toInt = dk_c.toInt) ∧ (p1.toInt = 4 → r.toInt = td_n.toInt) ∧ (p1.toInt = 5 → r.toInt = os_n.toInt) ∧ (p1.toInt = 6 → kc_c.toInt = 0 → r.toInt = 0) ∧ (p1.toInt = 7 → r.toInt = fd_n.toInt) ∧ (p1.toInt = 8 → wc_c.toInt = 0 → r.toInt = 0) ∧ (p1.toInt = 9 → r.toInt = sc_x.toInt) ∧ (p1.toInt = 10 → (∀ j, j < 4 → la j = -1) → r.toInt = 0) ∧ (p1.toInt = 11 → r.toInt = pc_x.toInt) ∧ (p1.toInt = 12 → r.toInt = ln_t.toInt))) 0 0 (fun _ => False) := by
  refine hw_met (cc := cX11_count) (maxL := 2) (ret := (some .int)) (plainFor_of_name (by decide)) rfl (Nat.le_of_ble_eq_true rfl) ?_
  intro p e s m args below meth c QQ ls hsz hx hb hml hr hts hown hlocks hnm hH hK hST hF hQ hl
  subst hsz
  have hS : va_S (hw_AW G [] s.heap.size) s.heap s.heap [] := va_S.rf
  obtain ⟨vx, vc, vt, vn, vq, hRK⟩ := hF
  have hl : lv_has ls 2 [(0, .ref h0), (1, .int p1)] := hl
  have u_10 : ∀ w ∈ u_ws RX11 TX11 14, w.before args s = true := fun w hw => hts w ((by decide +kernel : ∀ w ∈ u_ws RX11 TX11 14, w ∈ wsX11_count) w hw)
  have fg_10_10 : hw_FG s args m 10 10 0 := ⟨RX11, "WardWalkers", RX11, TX11, 14, u_10, hown, rfl, by decide, (hts (.fieldLink RX11 10 "WardWalkers" "country" "LWardWalkers$Country;") (by decide +kernel)), (fun _ h9 => h9)⟩
  have u_1 : ∀ w ∈ u_ws RX1 TX1 7, w.before args s = true := fun w hw => hts w ((by decide +kernel : ∀ w ∈ u_ws RX1 TX1 7, w ∈ wsX11_count) w hw)
  have fg_234_1 : hw_FG s args m 234 1 1 := ⟨RX11, "WardWalkers$Country", RX1, TX1, 7, u_1, hown, rfl, by decide, (hts (.fieldLink RX11 234 "WardWalkers$Country" "keyCount" "I") (by decide +kernel)), (fun _ h9 => h9)⟩
  have fg_256_1 : hw_FG s args m 256 1 3 := ⟨RX11, "WardWalkers$Country", RX1, TX1, 7, u_1, hown, rfl, by decide, (hts (.fieldLink RX11 256 "WardWalkers$Country" "lockCount" "I") (by decide +kernel)), (fun _ h9 => h9)⟩
  have fg_262_1 : hw_FG s args m 262 1 5 := ⟨RX11, "WardWalkers$Country", RX1, TX1, 7, u_1, hown, rfl, by decide, (hts (.fieldLink RX11 262 "WardWalkers$Country" "walkerCount" "I") (by decide +kernel)), (fun _ h9 => h9)⟩
  have fg_177_1 : hw_FG s args m 177 1 6 := ⟨RX11, "WardWalkers$Country", RX1, TX1, 7, u_1, hown, rfl, by decide, (hts (.fieldLink RX11 177 "WardWalkers$Country" "dark" "I") (by decide +kernel)), (fun _ h9 => h9)⟩
  have fg_26_10 : hw_FG s args m 26 10 2 := ⟨RX11, "WardWalkers", RX11, TX11, 14, u_10, hown, rfl, by decide, (hts (.fieldLink RX11 26 "WardWalkers" "now" "LWardWalkers$Standing;") (by decide +kernel)), (fun _ h9 => h9)⟩
  have u_8 : ∀ w ∈ u_ws RX9 TX9 7, w.before args s = true := fun w hw => hts w ((by decide +kernel : ∀ w ∈ u_ws RX9 TX9 7, w ∈ wsX11_count) w hw)
  have fg_205_8 : hw_FG s args m 205 8 0 := ⟨RX11, "WardWalkers$Standing", RX9, TX9, 7, u_8, hown, rfl, by decide, (hts (.fieldLink RX11 205 "WardWalkers$Standing" "today" "I") (by decide +kernel)), (fun _ h9 => h9)⟩
  have fg_358_8 : hw_FG s args m 358 8 2 := ⟨RX11, "WardWalkers$Standing", RX9, TX9, 7, u_8, hown, rfl, by decide, (hts (.fieldLink RX11 358 "WardWalkers$Standing" "openSet" "I") (by decide +kernel)), (fun _ h9 => h9)⟩
  have fg_364_8 : hw_FG s args m 364 8 1 := ⟨RX11, "WardWalkers$Standing", RX9, TX9, 7, u_8, hown, rfl, by decide, (hts (.fieldLink RX11 364 "WardWalkers$Standing" "found" "I") (by decide +kernel)), (fun _ h9 => h9)⟩
  have fg_88_10 : hw_FG s args m 88 10 11 := ⟨RX11, "WardWalkers", RX11, TX11, 14, u_10, hown, rfl, by decide, (hts (.fieldLink RX11 88 "WardWalkers" "seenCount" "I") (by decide +kernel)), (fun _ h9 => h9)⟩
  have fg_94_10 : hw_FG s args m 94 10 5 := ⟨RX11, "WardWalkers", RX11, TX11, 14, u_10, hown, rfl, by decide, (hts (.fieldLink RX11 94 "WardWalkers" "pastCount" "I") (by decide +kernel)), (fun _ h9 => h9)⟩
  have fg_19_10 : hw_FG s args m 19 10 1 := ⟨RX11, "WardWalkers", RX11, TX11, 14, u_10, hown, rfl, by decide, (hts (.fieldLink RX11 19 "WardWalkers" "text" "LWardWalkers$Text;") (by decide +kernel)), (fun _ h9 => h9)⟩
  have u_9 : ∀ w ∈ u_ws RX10 TX10 10, w.before args s = true := fun w hw => hts w ((by decide +kernel : ∀ w ∈ u_ws RX10 TX10 10, w ∈ wsX11_count) w hw)
  have fg_70_9 : hw_FG s args m 70 9 1 := ⟨RX11, "WardWalkers$Text", RX10, TX10, 10, u_9, hown, rfl, by decide, (hts (.fieldLink RX11 70 "WardWalkers$Text" "length" "I") (by decide +kernel)), (fun _ h9 => h9)⟩
  refine lv_iload_n hx hb dX11_count_0 rfl (lv_at hl 1 rfl) ?_
  by_cases w1 : p1.toInt < 0 ∨ 12 < p1.toInt
  · refine lv_tableOut (tgt := 157) hx hb dX11_count_1 w1 (by decide) ?_
    refine lv_bipush (v := (-3)) hx hb dX11_count_157 (by decide) ?_
    exact hw_iretR (v := (-3)) hx hb hr hlocks hQ rfl (⟨(-3), rfl, (by intros; first | rfl | assumption | omega | (rename_i h8 h9; exact absurd h8 (by omega)) | (exfalso; omega)), (by intros; first | rfl | assumption | omega | (rename_i h8 h9; exact absurd h8 (by omega)) | (exfalso; omega)), (by intros; first | rfl | assumption | omega | (rename_i h8 h9; exact absurd h8 (by omega)) | (exfalso; omega)), (by intros; first | rfl | assumption | omega | (rename_i h8 h9; exact absurd h8 (by omega)) | (exfalso; omega)), (by intros; first | rfl | assumption | omega | (rename_i h8 h9; exact absurd h8 (by omega)) | (exfalso; omega)), (by intros; first | rfl | assumption | omega | (rename_i h8 h9; exact absurd h8 (by omega)) | (exfalso; omega)), (by intros; first | rfl | assumption | omega | (rename_i h8 h9; exact absurd h8 (by omega)) | (exfalso; omega)), (by intros; first | rfl | assumption | omega | (rename_i h8 h9; exact absurd h8 (by omega)) | (exfalso; omega)), (by intros; first | rfl | assumption | omega | (rename_i h8 h9; exact absurd h8 (by omega)) | (exfalso; omega)), (by intros; first | rfl | assumption | omega | (rename_i h8 h9; exact absurd h8 (by omega)) | (exfalso; omega)), (by intros; first | rfl | assumption | omega | (rename_i h8 h9; exact absurd h8 (by omega)) | (exfalso; omega)), (by intro h8 h9; first | (exfalso; omega) | (have h7 : (∀ j, j < 4 → la j = -1) → (-3).toInt = 0 := (by assumption); exact h7 h9)), (by intros; first | rfl | assumption | omega | (rename_i h8 h9; exact absurd h8 (by omega)) | (exfalso; omega)), (by intros; first | rfl | assumption | omega | (rename_i h8 h9; exact absurd h8 (by omega)) | (exfalso; omega))⟩) dX11_count_159
  · rcases (show p1.toInt = 0 ∨ p1.toInt = 1 ∨ p1.toInt = 2 ∨ p1.toInt = 3 ∨ p1.toInt = 4 ∨ p1.toInt = 5 ∨ p1.toInt = 6 ∨ p1.toInt = 7 ∨ p1.toInt = 8 ∨ p1.toInt = 9 ∨ p1.toInt = 10 ∨ p1.toInt = 11 ∨ p1.toInt = 12 by omega) with w1 | w1 | w1 | w1 | w1 | w1 | w1 | w1 | w1 | w1 | w1 | w1 | w1
    · refine lv_tableIn (tgt := 68) (off := 67) hx hb dX11_count_1 (by omega) (by omega) (by rw [w1]; rfl) (by decide) ?_
      refine lv_aload_n hx hb dX11_count_68 rfl (lv_at hl 0 rfl) ?_
      refine hw_get hx hb fg_10_10 hK vx rfl dX11_count_69 ?_
      refine hw_get hx hb fg_234_1 hK vc rfl dX11_count_72 ?_
      exact hw_iretR (v := kc_c) hx hb hr hlocks hQ rfl (⟨kc_c, rfl, (by intros; first | rfl | assumption | omega | (rename_i h8 h9; exact absurd h8 (by omega)) | (exfalso; omega)), (by intros; first | rfl | assumption | omega | (rename_i h8 h9; exact absurd h8 (by omega)) | (exfalso; omega)), (by intros; first | rfl | assumption | omega | (rename_i h8 h9; exact absurd h8 (by omega)) | (exfalso; omega)), (by intros; first | rfl | assumption | omega | (rename_i h8 h9; exact absurd h8 (by omega)) | (exfalso; omega)), (by intros; first | rfl | assumption | omega | (rename_i h8 h9; exact absurd h8 (by omega)) | (exfalso; omega)), (by intros; first | rfl | assumption | omega | (rename_i h8 h9; exact absurd h8 (by omega)) | (exfalso; omega)), (by intros; first | rfl | assumption | omega | (rename_i h8 h9; exact absurd h8 (by omega)) | (exfalso; omega)), (by intros; first | rfl | assumption | omega | (rename_i h8 h9; exact absurd h8 (by omega)) | (exfalso; omega)), (by intros; first | rfl | assumption | omega | (rename_i h8 h9; exact absurd h8 (by omega)) | (exfalso; omega)), (by intros; first | rfl | assumption | omega | (rename_i h8 h9; exact absurd h8 (by omega)) | (exfalso; omega)), (by intros; first | rfl | assumption | omega | (rename_i h8 h9; exact absurd h8 (by omega)) | (exfalso; omega)), (by intro h8 h9; first | (exfalso; omega) | (have h7 : (∀ j, j < 4 → la j = -1) → kc_c.toInt = 0 := (by assumption); exact h7 h9)), (by intros; first | rfl | assumption | omega | (rename_i h8 h9; exact absurd h8 (by omega)) | (exfalso; omega)), (by intros; first | rfl | assumption | omega | (rename_i h8 h9; exact absurd h8 (by omega)) | (exfalso; omega))⟩) dX11_count_75
    · refine lv_tableIn (tgt := 76) (off := 75) hx hb dX11_count_1 (by omega) (by omega) (by rw [w1]; rfl) (by decide) ?_
      refine lv_aload_n hx hb dX11_count_76 rfl (lv_at hl 0 rfl) ?_
      refine hw_get hx hb fg_10_10 hK vx rfl dX11_count_77 ?_
      refine hw_get hx hb fg_256_1 hK vc rfl dX11_count_80 ?_
      exact hw_iretR (v := lc_c) hx hb hr hlocks hQ rfl (⟨lc_c, rfl, (by intros; first | rfl | assumption | omega | (rename_i h8 h9; exact absurd h8 (by omega)) | (exfalso; omega)), (by intros; first | rfl | assumption | omega | (rename_i h8 h9; exact absurd h8 (by omega)) | (exfalso; omega)), (by intros; first | rfl | assumption | omega | (rename_i h8 h9; exact absurd h8 (by omega)) | (exfalso; omega)), (by intros; first | rfl | assumption | omega | (rename_i h8 h9; exact absurd h8 (by omega)) | (exfalso; omega)), (by intros; first | rfl | assumption | omega | (rename_i h8 h9; exact absurd h8 (by omega)) | (exfalso; omega)), (by intros; first | rfl | assumption | omega | (rename_i h8 h9; exact absurd h8 (by omega)) | (exfalso; omega)), (by intros; first | rfl | assumption | omega | (rename_i h8 h9; exact absurd h8 (by omega)) | (exfalso; omega)), (by intros; first | rfl | assumption | omega | (rename_i h8 h9; exact absurd h8 (by omega)) | (exfalso; omega)), (by intros; first | rfl | assumption | omega | (rename_i h8 h9; exact absurd h8 (by omega)) | (exfalso; omega)), (by intros; first | rfl | assumption | omega | (rename_i h8 h9; exact absurd h8 (by omega)) | (exfalso; omega)), (by intros; first | rfl | assumption | omega | (rename_i h8 h9; exact absurd h8 (by omega)) | (exfalso; omega)), (by intro h8 h9; first | (exfalso; omega) | (have h7 : (∀ j, j < 4 → la j = -1) → lc_c.toInt = 0 := (by assumption); exact h7 h9)), (by intros; first | rfl | assumption | omega | (rename_i h8 h9; exact absurd h8 (by omega)) | (exfalso; omega)), (by intros; first | rfl | assumption | omega | (rename_i h8 h9; exact absurd h8 (by omega)) | (exfalso; omega))⟩) dX11_count_83
    · refine lv_tableIn (tgt := 84) (off := 83) hx hb dX11_count_1 (by omega) (by omega) (by rw [w1]; rfl) (by decide) ?_
      refine lv_aload_n hx hb dX11_count_84 rfl (lv_at hl 0 rfl) ?_
      refine hw_get hx hb fg_10_10 hK vx rfl dX11_count_85 ?_
      refine hw_get hx hb fg_262_1 hK vc rfl dX11_count_88 ?_
      exact hw_iretR (v := wc_c) hx hb hr hlocks hQ rfl (⟨wc_c, rfl, (by intros; first | rfl | assumption | omega | (rename_i h8 h9; exact absurd h8 (by omega)) | (exfalso; omega)), (by intros; first | rfl | assumption | omega | (rename_i h8 h9; exact absurd h8 (by omega)) | (exfalso; omega)), (by intros; first | rfl | assumption | omega | (rename_i h8 h9; exact absurd h8 (by omega)) | (exfalso; omega)), (by intros; first | rfl | assumption | omega | (rename_i h8 h9; exact absurd h8 (by omega)) | (exfalso; omega)), (by intros; first | rfl | assumption | omega | (rename_i h8 h9; exact absurd h8 (by omega)) | (exfalso; omega)), (by intros; first | rfl | assumption | omega | (rename_i h8 h9; exact absurd h8 (by omega)) | (exfalso; omega)), (by intros; first | rfl | assumption | omega | (rename_i h8 h9; exact absurd h8 (by omega)) | (exfalso; omega)), (by intros; first | rfl | assumption | omega | (rename_i h8 h9; exact absurd h8 (by omega)) | (exfalso; omega)), (by intros; first | rfl | assumption | omega | (rename_i h8 h9; exact absurd h8 (by omega)) | (exfalso; omega)), (by intros; first | rfl | assumption | omega | (rename_i h8 h9; exact absurd h8 (by omega)) | (exfalso; omega)), (by intros; first | rfl | assumption | omega | (rename_i h8 h9; exact absurd h8 (by omega)) | (exfalso; omega)), (by intro h8 h9; first | (exfalso; omega) | (have h7 : (∀ j, j < 4 → la j = -1) → wc_c.toInt = 0 := (by assumption); exact h7 h9)), (by intros; first | rfl | assumption | omega | (rename_i h8 h9; exact absurd h8 (by omega)) | (exfalso; omega)), (by intros; first | rfl | assumption | omega | (rename_i h8 h9; exact absurd h8 (by omega)) | (exfalso; omega))⟩) dX11_count_91
    · refine lv_tableIn (tgt := 92) (off := 91) hx hb dX11_count_1 (by omega) (by omega) (by rw [w1]; rfl) (by decide) ?_
      refine lv_aload_n hx hb dX11_count_92 rfl (lv_at hl 0 rfl) ?_
      refine hw_get hx hb fg_10_10 hK vx rfl dX11_count_93 ?_
      refine hw_get hx hb fg_177_1 hK vc rfl dX11_count_96 ?_
      exact hw_iretR (v := dk_c) hx hb hr hlocks hQ rfl (⟨dk_c, rfl, (by intros; first | rfl | assumption | omega | (rename_i h8 h9; exact absurd h8 (by omega)) | (exfalso; omega)), (by intros; first | rfl | assumption | omega | (rename_i h8 h9; exact absurd h8 (by omega)) | (exfalso; omega)), (by intros; first | rfl | assumption | omega | (rename_i h8 h9; exact absurd h8 (by omega)) | (exfalso; omega)), (by intros; first | rfl | assumption | omega | (rename_i h8 h9; exact absurd h8 (by omega)) | (exfalso; omega)), (by intros; first | rfl | assumption | omega | (rename_i h8 h9; exact absurd h8 (by omega)) | (exfalso; omega)), (by intros; first | rfl | assumption | omega | (rename_i h8 h9; exact absurd h8 (by omega)) | (exfalso; omega)), (by intros; first | rfl | assumption | omega | (rename_i h8 h9; exact absurd h8 (by omega)) | (exfalso; omega)), (by intros; first | rfl | assumption | omega | (rename_i h8 h9; exact absurd h8 (by omega)) | (exfalso; omega)), (by intros; first | rfl | assumption | omega | (rename_i h8 h9; exact absurd h8 (by omega)) | (exfalso; omega)), (by intros; first | rfl | assumption | omega | (rename_i h8 h9; exact absurd h8 (by omega)) | (exfalso; omega)), (by intros; first | rfl | assumption | omega | (rename_i h8 h9; exact absurd h8 (by omega)) | (exfalso; omega)), (by intro h8 h9; first | (exfalso; omega) | (have h7 : (∀ j, j < 4 → la j = -1) → dk_c.toInt = 0 := (by assumption); exact h7 h9)), (by intros; first | rfl | assumption | omega | (rename_i h8 h9; exact absurd h8 (by omega)) | (exfalso; omega)), (by intros; first | rfl | assumption | omega | (rename_i h8 h9; exact absurd h8 (by omega)) | (exfalso; omega))⟩) dX11_count_99
    · refine lv_tableIn (tgt := 100) (off := 99) hx hb dX11_count_1 (by omega) (by omega) (by rw [w1]; rfl) (by decide) ?_
      refine lv_aload_n hx hb dX11_count_100 rfl (lv_at hl 0 rfl) ?_
      refine hw_get hx hb fg_26_10 hK vx rfl dX11_count_101 ?_
      refine hw_get hx hb fg_205_8 hK vn rfl dX11_count_104 ?_
      exact hw_iretR (v := td_n) hx hb hr hlocks hQ rfl (⟨td_n, rfl, (by intros; first | rfl | assumption | omega | (rename_i h8 h9; exact absurd h8 (by omega)) | (exfalso; omega)), (by intros; first | rfl | assumption | omega | (rename_i h8 h9; exact absurd h8 (by omega)) | (exfalso; omega)), (by intros; first | rfl | assumption | omega | (rename_i h8 h9; exact absurd h8 (by omega)) | (exfalso; omega)), (by intros; first | rfl | assumption | omega | (rename_i h8 h9; exact absurd h8 (by omega)) | (exfalso; omega)), (by intros; first | rfl | assumption | omega | (rename_i h8 h9; exact absurd h8 (by omega)) | (exfalso; omega)), (by intros; first | rfl | assumption | omega | (rename_i h8 h9; exact absurd h8 (by omega)) | (exfalso; omega)), (by intros; first | rfl | assumption | omega | (rename_i h8 h9; exact absurd h8 (by omega)) | (exfalso; omega)), (by intros; first | rfl | assumption | omega | (rename_i h8 h9; exact absurd h8 (by omega)) | (exfalso; omega)), (by intros; first | rfl | assumption | omega | (rename_i h8 h9; exact absurd h8 (by omega)) | (exfalso; omega)), (by intros; first | rfl | assumption | omega | (rename_i h8 h9; exact absurd h8 (by omega)) | (exfalso; omega)), (by intros; first | rfl | assumption | omega | (rename_i h8 h9; exact absurd h8 (by omega)) | (exfalso; omega)), (by intro h8 h9; first | (exfalso; omega) | (have h7 : (∀ j, j < 4 → la j = -1) → td_n.toInt = 0 := (by assumption); exact h7 h9)), (by intros; first | rfl | assumption | omega | (rename_i h8 h9; exact absurd h8 (by omega)) | (exfalso; omega)), (by intros; first | rfl | assumption | omega | (rename_i h8 h9; exact absurd h8 (by omega)) | (exfalso; omega))⟩) dX11_count_107
    · refine lv_tableIn (tgt := 108) (off := 107) hx hb dX11_count_1 (by omega) (by omega) (by rw [w1]; rfl) (by decide) ?_
      refine lv_aload_n hx hb dX11_count_108 rfl (lv_at hl 0 rfl) ?_
      refine hw_get hx hb fg_26_10 hK vx rfl dX11_count_109 ?_
      refine hw_get hx hb fg_358_8 hK vn rfl dX11_count_112 ?_
      exact hw_iretR (v := os_n) hx hb hr hlocks hQ rfl (⟨os_n, rfl, (by intros; first | rfl | assumption | omega | (rename_i h8 h9; exact absurd h8 (by omega)) | (exfalso; omega)), (by intros; first | rfl | assumption | omega | (rename_i h8 h9; exact absurd h8 (by omega)) | (exfalso; omega)), (by intros; first | rfl | assumption | omega | (rename_i h8 h9; exact absurd h8 (by omega)) | (exfalso; omega)), (by intros; first | rfl | assumption | omega | (rename_i h8 h9; exact absurd h8 (by omega)) | (exfalso; omega)), (by intros; first | rfl | assumption | omega | (rename_i h8 h9; exact absurd h8 (by omega)) | (exfalso; omega)), (by intros; first | rfl | assumption | omega | (rename_i h8 h9; exact absurd h8 (by omega)) | (exfalso; omega)), (by intros; first | rfl | assumption | omega | (rename_i h8 h9; exact absurd h8 (by omega)) | (exfalso; omega)), (by intros; first | rfl | assumption | omega | (rename_i h8 h9; exact absurd h8 (by omega)) | (exfalso; omega)), (by intros; first | rfl | assumption | omega | (rename_i h8 h9; exact absurd h8 (by omega)) | (exfalso; omega)), (by intros; first | rfl | assumption | omega | (rename_i h8 h9; exact absurd h8 (by omega)) | (exfalso; omega)), (by intros; first | rfl | assumption | omega | (rename_i h8 h9; exact absurd h8 (by omega)) | (exfalso; omega)), (by intro h8 h9; first | (exfalso; omega) | (have h7 : (∀ j, j < 4 → la j = -1) → os_n.toInt = 0 := (by assumption); exact h7 h9)), (by intros; first | rfl | assumption | omega | (rename_i h8 h9; exact absurd h8 (by omega)) | (exfalso; omega)), (by intros; first | rfl | assumption | omega | (rename_i h8 h9; exact absurd h8 (by omega)) | (exfalso; omega))⟩) dX11_count_115
    · refine lv_tableIn (tgt := 116) (off := 115) hx hb dX11_count_1 (by omega) (by omega) (by rw [w1]; rfl) (by decide) ?_
      refine lv_aload_n hx hb dX11_count_116 rfl (lv_at hl 0 rfl) ?_
      refine hw_cR (va_runV (As := []) (rest := []) ⟨hx, hb, hml, hown, hts⟩ (k_X11_brokenKeys l D G h0 _ rx pn_x pc_x ks_x sc_x rc kc_c lc_c wc_c dk_c G0 Rx ⟨by first | decide | omega, by first | decide | omega⟩ Rc ⟨by first | decide | omega, by first | decide | omega⟩ ⟨by first | decide | omega, by first | decide | omega⟩ ⟨by first | decide | omega, by first | decide | omega⟩) (cwV 0 hts gX11_count_X11_brokenKeys rfl rfl rfl (by decide +kernel) ⟨Nat.le_of_ble_eq_true rfl, Nat.le_of_ble_eq_true rfl⟩) (hw_pV (hw_rc (q := (RX11, TX11, 14)) hK vx rfl) hH hK hST hS (by decide) (fun _ h => Or.inl h) ⟨vx, vc⟩) rfl rfl hl.1 rfl (lv_room (Nat.le_of_ble_eq_true rfl)) dX11_count_117 ⟨Nat.le_of_ble_eq_true rfl, Nat.le_of_ble_eq_true rfl⟩) (fun v hp => ?_)
      obtain ⟨x2, rfl, q3⟩ := hp
      exact hw_iretR (v := x2) hx hb hr hlocks hQ rfl (⟨x2, rfl, (by intros; first | rfl | assumption | omega | (rename_i h8 h9; exact absurd h8 (by omega)) | (exfalso; omega)), (by intros; first | rfl | assumption | omega | (rename_i h8 h9; exact absurd h8 (by omega)) | (exfalso; omega)), (by intros; first | rfl | assumption | omega | (rename_i h8 h9; exact absurd h8 (by omega)) | (exfalso; omega)), (by intros; first | rfl | assumption | omega | (rename_i h8 h9; exact absurd h8 (by omega)) | (exfalso; omega)), (by intros; first | rfl | assumption | omega | (rename_i h8 h9; exact absurd h8 (by omega)) | (exfalso; omega)), (by intros; first | rfl | assumption | omega | (rename_i h8 h9; exact absurd h8 (by omega)) | (exfalso; omega)), (by intros; first | rfl | assumption | omega | (rename_i h8 h9; exact absurd h8 (by omega)) | (exfalso; omega)), (by intros; first | rfl | assumption | omega | (rename_i h8 h9; exact absurd h8 (by omega)) | (exfalso; omega)), (by intros; first | rfl | assumption | omega | (rename_i h8 h9; exact absurd h8 (by omega)) | (exfalso; omega)), (by intros; first | rfl | assumption | omega | (rename_i h8 h9; exact absurd h8 (by omega)) | (exfalso; omega)), (by intros; first | rfl | assumption | omega | (rename_i h8 h9; exact absurd h8 (by omega)) | (exfalso; omega)), (by intro h8 h9; first | (exfalso; omega) | (have h7 : (∀ j, j < 4 → la j = -1) → x2.toInt = 0 := (by assumption); exact h7 h9)), (by intros; first | rfl | assumption | omega | (rename_i h8 h9; exact absurd h8 (by omega)) | (exfalso; omega)), (by intros; first | rfl | assumption | omega | (rename_i h8 h9; exact absurd h8 (by omega)) | (exfalso; omega))⟩) dX11_count_120
    · refine lv_tableIn (tgt := 121) (off := 120) hx hb dX11_count_1 (by omega) (by omega) (by rw [w1]; rfl) (by decide) ?_
      refine lv_aload_n hx hb dX11_count_121 rfl (lv_at hl 0 rfl) ?_
      refine hw_get hx hb fg_26_10 hK vx rfl dX11_count_122 ?_
      refine hw_get hx hb fg_364_8 hK vn rfl dX11_count_125 ?_
      exact hw_iretR (v := fd_n) hx hb hr hlocks hQ rfl (⟨fd_n, rfl, (by intros; first | rfl | assumption | omega | (rename_i h8 h9; exact absurd h8 (by omega)) | (exfalso; omega)), (by intros; first | rfl | assumption | omega | (rename_i h8 h9; exact absurd h8 (by omega)) | (exfalso; omega)), (by intros; first | rfl | assumption | omega | (rename_i h8 h9; exact absurd h8 (by omega)) | (exfalso; omega)), (by intros; first | rfl | assumption | omega | (rename_i h8 h9; exact absurd h8 (by omega)) | (exfalso; omega)), (by intros; first | rfl | assumption | omega | (rename_i h8 h9; exact absurd h8 (by omega)) | (exfalso; omega)), (by intros; first | rfl | assumption | omega | (rename_i h8 h9; exact absurd h8 (by omega)) | (exfalso; omega)), (by intros; first | rfl | assumption | omega | (rename_i h8 h9; exact absurd h8 (by omega)) | (exfalso; omega)), (by intros; first | rfl | assumption | omega | (rename_i h8 h9; exact absurd h8 (by omega)) | (exfalso; omega)), (by intros; first | rfl | assumption | omega | (rename_i h8 h9; exact absurd h8 (by omega)) | (exfalso; omega)), (by intros; first | rfl | assumption | omega | (rename_i h8 h9; exact absurd h8 (by omega)) | (exfalso; omega)), (by intros; first | rfl | assumption | omega | (rename_i h8 h9; exact absurd h8 (by omega)) | (exfalso; omega)), (by intro h8 h9; first | (exfalso; omega) | (have h7 : (∀ j, j < 4 → la j = -1) → fd_n.toInt = 0 := (by assumption); exact h7 h9)), (by intros; first | rfl | assumption | omega | (rename_i h8 h9; exact absurd h8 (by omega)) | (exfalso; omega)), (by intros; first | rfl | assumption | omega | (rename_i h8 h9; exact absurd h8 (by omega)) | (exfalso; omega))⟩) dX11_count_128
    · refine lv_tableIn (tgt := 129) (off := 128) hx hb dX11_count_1 (by omega) (by omega) (by rw [w1]; rfl) (by decide) ?_
      refine lv_aload_n hx hb dX11_count_129 rfl (lv_at hl 0 rfl) ?_
      refine hw_cR (va_runV (As := []) (rest := []) ⟨hx, hb, hml, hown, hts⟩ (k_X11_latestMinute l D G h0 _ rx pn_x pc_x ks_x sc_x rc kc_c lc_c wc_c dk_c G0 Rx ⟨by first | decide | omega, by first | decide | omega⟩ Rc ⟨by first | decide | omega, by first | decide | omega⟩ ⟨by first | decide | omega, by first | decide | omega⟩ ⟨by first | decide | omega, by first | decide | omega⟩) (cwV 0 hts gX11_count_X11_latestMinute rfl rfl rfl (by decide +kernel) ⟨Nat.le_of_ble_eq_true rfl, Nat.le_of_ble_eq_true rfl⟩) (hw_pV (hw_rc (q := (RX11, TX11, 14)) hK vx rfl) hH hK hST hS (by decide) (fun _ h => Or.inl h) ⟨vx, vc⟩) rfl rfl hl.1 rfl (lv_room (Nat.le_of_ble_eq_true rfl)) dX11_count_130 ⟨Nat.le_of_ble_eq_true rfl, Nat.le_of_ble_eq_true rfl⟩) (fun v hp => ?_)
      obtain ⟨x4, rfl, q5⟩ := hp
      exact hw_iretR (v := x4) hx hb hr hlocks hQ rfl (⟨x4, rfl, (by intros; first | rfl | assumption | omega | (rename_i h8 h9; exact absurd h8 (by omega)) | (exfalso; omega)), (by intros; first | rfl | assumption | omega | (rename_i h8 h9; exact absurd h8 (by omega)) | (exfalso; omega)), (by intros; first | rfl | assumption | omega | (rename_i h8 h9; exact absurd h8 (by omega)) | (exfalso; omega)), (by intros; first | rfl | assumption | omega | (rename_i h8 h9; exact absurd h8 (by omega)) | (exfalso; omega)), (by intros; first | rfl | assumption | omega | (rename_i h8 h9; exact absurd h8 (by omega)) | (exfalso; omega)), (by intros; first | rfl | assumption | omega | (rename_i h8 h9; exact absurd h8 (by omega)) | (exfalso; omega)), (by intros; first | rfl | assumption | omega | (rename_i h8 h9; exact absurd h8 (by omega)) | (exfalso; omega)), (by intros; first | rfl | assumption | omega | (rename_i h8 h9; exact absurd h8 (by omega)) | (exfalso; omega)), (by intros; first | rfl | assumption | omega | (rename_i h8 h9; exact absurd h8 (by omega)) | (exfalso; omega)), (by intros; first | rfl | assumption | omega | (rename_i h8 h9; exact absurd h8 (by omega)) | (exfalso; omega)), (by intros; first | rfl | assumption | omega | (rename_i h8 h9; exact absurd h8 (by omega)) | (exfalso; omega)), (by intro h8 h9; first | (exfalso; omega) | (have h7 : (∀ j, j < 4 → la j = -1) → x4.toInt = 0 := (by assumption); exact h7 h9)), (by intros; first | rfl | assumption | omega | (rename_i h8 h9; exact absurd h8 (by omega)) | (exfalso; omega)), (by intros; first | rfl | assumption | omega | (rename_i h8 h9; exact absurd h8 (by omega)) | (exfalso; omega))⟩) dX11_count_133
    · refine lv_tableIn (tgt := 134) (off := 133) hx hb dX11_count_1 (by omega) (by omega) (by rw [w1]; rfl) (by decide) ?_
      refine lv_aload_n hx hb dX11_count_134 rfl (lv_at hl 0 rfl) ?_
      refine hw_get hx hb fg_88_10 hK vx rfl dX11_count_135 ?_
      exact hw_iretR (v := sc_x) hx hb hr hlocks hQ rfl (⟨sc_x, rfl, (by intros; first | rfl | assumption | omega | (rename_i h8 h9; exact absurd h8 (by omega)) | (exfalso; omega)), (by intros; first | rfl | assumption | omega | (rename_i h8 h9; exact absurd h8 (by omega)) | (exfalso; omega)), (by intros; first | rfl | assumption | omega | (rename_i h8 h9; exact absurd h8 (by omega)) | (exfalso; omega)), (by intros; first | rfl | assumption | omega | (rename_i h8 h9; exact absurd h8 (by omega)) | (exfalso; omega)), (by intros; first | rfl | assumption | omega | (rename_i h8 h9; exact absurd h8 (by omega)) | (exfalso; omega)), (by intros; first | rfl | assumption | omega | (rename_i h8 h9; exact absurd h8 (by omega)) | (exfalso; omega)), (by intros; first | rfl | assumption | omega | (rename_i h8 h9; exact absurd h8 (by omega)) | (exfalso; omega)), (by intros; first | rfl | assumption | omega | (rename_i h8 h9; exact absurd h8 (by omega)) | (exfalso; omega)), (by intros; first | rfl | assumption | omega | (rename_i h8 h9; exact absurd h8 (by omega)) | (exfalso; omega)), (by intros; first | rfl | assumption | omega | (rename_i h8 h9; exact absurd h8 (by omega)) | (exfalso; omega)), (by intros; first | rfl | assumption | omega | (rename_i h8 h9; exact absurd h8 (by omega)) | (exfalso; omega)), (by intro h8 h9; first | (exfalso; omega) | (have h7 : (∀ j, j < 4 → la j = -1) → sc_x.toInt = 0 := (by assumption); exact h7 h9)), (by intros; first | rfl | assumption | omega | (rename_i h8 h9; exact absurd h8 (by omega)) | (exfalso; omega)), (by intros; first | rfl | assumption | omega | (rename_i h8 h9; exact absurd h8 (by omega)) | (exfalso; omega))⟩) dX11_count_138
    · refine lv_tableIn (tgt := 139) (off := 138) hx hb dX11_count_1 (by omega) (by omega) (by rw [w1]; rfl) (by decide) ?_
      refine lv_aload_n hx hb dX11_count_139 rfl (lv_at hl 0 rfl) ?_
      refine hw_cR (va_runV (As := []) (rest := []) ⟨hx, hb, hml, hown, hts⟩ (k_X11_racksThere l D G h0 _ la sz9 rx pn_x pc_x ks_x sc_x fq G0 Rx ⟨by first | decide | omega, by first | decide | omega⟩ qq) (cwV 0 hts gX11_count_X11_racksThere rfl rfl rfl (by decide +kernel) ⟨Nat.le_of_ble_eq_true rfl, Nat.le_of_ble_eq_true rfl⟩) (hw_pV (hw_rc (q := (RX11, TX11, 14)) hK vx rfl) hH hK hST hS (by decide) (fun _ h => Or.inl h) ⟨vx, vq, hRK⟩) rfl rfl hl.1 rfl (lv_room (Nat.le_of_ble_eq_true rfl)) dX11_count_140 ⟨Nat.le_of_ble_eq_true rfl, Nat.le_of_ble_eq_true rfl⟩) (fun v hp => ?_)
      obtain ⟨x6, rfl, q7⟩ := hp
      exact hw_iretR (v := x6) hx hb hr hlocks hQ rfl (⟨x6, rfl, (by intros; first | rfl | assumption | omega | (rename_i h8 h9; exact absurd h8 (by omega)) | (exfalso; omega)), (by intros; first | rfl | assumption | omega | (rename_i h8 h9; exact absurd h8 (by omega)) | (exfalso; omega)), (by intros; first | rfl | assumption | omega | (rename_i h8 h9; exact absurd h8 (by omega)) | (exfalso; omega)), (by intros; first | rfl | assumption | omega | (rename_i h8 h9; exact absurd h8 (by omega)) | (exfalso; omega)), (by intros; first | rfl | assumption | omega | (rename_i h8 h9; exact absurd h8 (by omega)) | (exfalso; omega)), (by intros; first | rfl | assumption | omega | (rename_i h8 h9; exact absurd h8 (by omega)) | (exfalso; omega)), (by intros; first | rfl | assumption | omega | (rename_i h8 h9; exact absurd h8 (by omega)) | (exfalso; omega)), (by intros; first | rfl | assumption | omega | (rename_i h8 h9; exact absurd h8 (by omega)) | (exfalso; omega)), (by intros; first | rfl | assumption | omega | (rename_i h8 h9; exact absurd h8 (by omega)) | (exfalso; omega)), (by intros; first | rfl | assumption | omega | (rename_i h8 h9; exact absurd h8 (by omega)) | (exfalso; omega)), (by intros; first | rfl | assumption | omega | (rename_i h8 h9; exact absurd h8 (by omega)) | (exfalso; omega)), (by intro h8 h9; first | (exfalso; omega) | (have h7 : (∀ j, j < 4 → la j = -1) → x6.toInt = 0 := (by assumption); exact h7 h9)), (by intros; first | rfl | assumption | omega | (rename_i h8 h9; exact absurd h8 (by omega)) | (exfalso; omega)), (by intros; first | rfl | assumption | omega | (rename_i h8 h9; exact absurd h8 (by omega)) | (exfalso; omega))⟩) dX11_count_143
    · refine lv_tableIn (tgt := 144) (off := 143) hx hb dX11_count_1 (by omega) (by omega) (by rw [w1]; rfl) (by decide) ?_
      refine lv_aload_n hx hb dX11_count_144 rfl (lv_at hl 0 rfl) ?_
      refine hw_get hx hb fg_94_10 hK vx rfl dX11_count_145 ?_
      exact hw_iretR (v := pc_x) hx hb hr hlocks hQ rfl (⟨pc_x, rfl, (by intros; first | rfl | assumption | omega | (rename_i h8 h9; exact absurd h8 (by omega)) | (exfalso; omega)), (by intros; first | rfl | assumption | omega | (rename_i h8 h9; exact absurd h8 (by omega)) | (exfalso; omega)), (by intros; first | rfl | assumption | omega | (rename_i h8 h9; exact absurd h8 (by omega)) | (exfalso; omega)), (by intros; first | rfl | assumption | omega | (rename_i h8 h9; exact absurd h8 (by omega)) | (exfalso; omega)), (by intros; first | rfl | assumption | omega | (rename_i h8 h9; exact absurd h8 (by omega)) | (exfalso; omega)), (by intros; first | rfl | assumption | omega | (rename_i h8 h9; exact absurd h8 (by omega)) | (exfalso; omega)), (by intros; first | rfl | assumption | omega | (rename_i h8 h9; exact absurd h8 (by omega)) | (exfalso; omega)), (by intros; first | rfl | assumption | omega | (rename_i h8 h9; exact absurd h8 (by omega)) | (exfalso; omega)), (by intros; first | rfl | assumption | omega | (rename_i h8 h9; exact absurd h8 (by omega)) | (exfalso; omega)), (by intros; first | rfl | assumption | omega | (rename_i h8 h9; exact absurd h8 (by omega)) | (exfalso; omega)), (by intros; first | rfl | assumption | omega | (rename_i h8 h9; exact absurd h8 (by omega)) | (exfalso; omega)), (by intro h8 h9; first | (exfalso; omega) | (have h7 : (∀ j, j < 4 → la j = -1) → pc_x.toInt = 0 := (by assumption); exact h7 h9)), (by intros; first | rfl | assumption | omega | (rename_i h8 h9; exact absurd h8 (by omega)) | (exfalso; omega)), (by intros; first | rfl | assumption | omega | (rename_i h8 h9; exact absurd h8 (by omega)) | (exfalso; omega))⟩) dX11_count_148
    · refine lv_tableIn (tgt := 149) (off := 148) hx hb dX11_count_1 (by omega) (by omega) (by rw [w1]; rfl) (by decide) ?_
      refine lv_aload_n hx hb dX11_count_149 rfl (lv_at hl 0 rfl) ?_
      refine hw_get hx hb fg_19_10 hK vx rfl dX11_count_150 ?_
      refine hw_get hx hb fg_70_9 hK vt rfl dX11_count_153 ?_
      exact hw_iretR (v := ln_t) hx hb hr hlocks hQ rfl (⟨ln_t, rfl, (by intros; first | rfl | assumption | omega | (rename_i h8 h9; exact absurd h8 (by omega)) | (exfalso; omega)), (by intros; first | rfl | assumption | omega | (rename_i h8 h9; exact absurd h8 (by omega)) | (exfalso; omega)), (by intros; first | rfl | assumption | omega | (rename_i h8 h9; exact absurd h8 (by omega)) | (exfalso; omega)), (by intros; first | rfl | assumption | omega | (rename_i h8 h9; exact absurd h8 (by omega)) | (exfalso; omega)), (by intros; first | rfl | assumption | omega | (rename_i h8 h9; exact absurd h8 (by omega)) | (exfalso; omega)), (by intros; first | rfl | assumption | omega | (rename_i h8 h9; exact absurd h8 (by omega)) | (exfalso; omega)), (by intros; first | rfl | assumption | omega | (rename_i h8 h9; exact absurd h8 (by omega)) | (exfalso; omega)), (by intros; first | rfl | assumption | omega | (rename_i h8 h9; exact absurd h8 (by omega)) | (exfalso; omega)), (by intros; first | rfl | assumption | omega | (rename_i h8 h9; exact absurd h8 (by omega)) | (exfalso; omega)), (by intros; first | rfl | assumption | omega | (rename_i h8 h9; exact absurd h8 (by omega)) | (exfalso; omega)), (by intros; first | rfl | assumption | omega | (rename_i h8 h9; exact absurd h8 (by omega)) | (exfalso; omega)), (by intro h8 h9; first | (exfalso; omega) | (have h7 : (∀ j, j < 4 → la j = -1) → ln_t.toInt = 0 := (by assumption); exact h7 h9)), (by intros; first | rfl | assumption | omega | (rename_i h8 h9; exact absurd h8 (by omega)) | (exfalso; omega)), (by intros; first | rfl | assumption | omega | (rename_i h8 h9; exact absurd h8 (by omega)) | (exfalso; omega))⟩) dX11_count_156
