set_option maxHeartbeats 4000000 in
set_option maxRecDepth 100000 in
theorem k_X12_in (l : Launch) (D : hw_D) (G : Nat → Nat) (p1 : Int64) (p2 : Int64) (p3 : Int64) (sz : Nat) : Met l yX12_in wsX12_in ({ frames := 0, cells := 0, slots := 0, locals := 0 } : Room) (hw_PC D G [.long p1, .long p2, .long p3] sz (fun H => True)) (hw_QR (fun v => (v = .int 1 ∧ (p2.toInt ≤ p1.toInt ∧ p1.toInt ≤ p3.toInt)) ∨ (v = .int 0 ∧ (p1.toInt < p2.toInt ∨ p3.toInt < p1.toInt)))) 0 0 (fun _ => False) := by
  refine hw_met (cc := cX12_in) (maxL := 6) (ret := (some .boolean)) (plainFor_of_name (by decide)) rfl (Nat.le_of_ble_eq_true rfl) ?_
  intro p e s m args below meth c QQ ls hsz hx hb hml hr hts hown hlocks hnm hH hK hST hF hQ hl
  subst hsz
  have hS : va_S (hw_AW G [] s.heap.size) s.heap s.heap [] := va_S.rf
  have hl : lv_has ls 6 [(0, .long p1), (2, .long p2), (4, .long p3)] := hl
  refine lv_lload_n hx hb dX12_in_0 rfl (lv_at hl 0 rfl) ?_
  refine lv_lload_n hx hb dX12_in_1 rfl (lv_at hl 1 rfl) ?_
  refine W.lcmp hx hb dX12_in_2 ?_
  refine lv_topi (fun x1 e2 => ?_)
  refine lv_if_lt (tgt := 17) hx hb dX12_in_3 (by decide) (fun c3 => ?_) (fun c3 => ?_)
  · have b4 := hw_cmplt (e2 ▸ c3)
    have b5 : p1.toInt < p2.toInt := hw_Llt b4
    refine lv_iconst (v := 0) hx hb dX12_in_17 (by decide) ?_
    exact hw_iretR (v := 0) hx hb hr hlocks hQ rfl (Or.inr (⟨rfl, (by first | rfl | trivial | assumption | omega | (intros; first | rfl | assumption | omega | (exfalso; omega)))⟩)) dX12_in_18
  · have b6 := hw_cmpnlt (e2 ▸ c3)
    have b7 : p2.toInt ≤ p1.toInt := hw_Lnlt b6
    refine lv_lload_n hx hb dX12_in_6 rfl (lv_at hl 0 rfl) ?_
    refine lv_lload hx hb dX12_in_7 (lv_at hl 2 rfl) ?_
    refine W.lcmp hx hb dX12_in_9 ?_
    refine lv_topi (fun x8 e9 => ?_)
    refine lv_if_gt (tgt := 17) hx hb dX12_in_10 (by decide) (fun c10 => ?_) (fun c10 => ?_)
    · have b11 := hw_cmpgt (e9 ▸ c10)
      have b12 : p3.toInt < p1.toInt := hw_Llt b11
      refine lv_iconst (v := 0) hx hb dX12_in_17 (by decide) ?_
      exact hw_iretR (v := 0) hx hb hr hlocks hQ rfl (Or.inr (⟨rfl, (by first | rfl | trivial | assumption | omega | (intros; first | rfl | assumption | omega | (exfalso; omega)))⟩)) dX12_in_18
    · have b13 := hw_cmpngt (e9 ▸ c10)
      have b14 : p1.toInt ≤ p3.toInt := hw_Lnlt b13
      refine lv_iconst (v := 1) hx hb dX12_in_13 (by decide) ?_
      refine lv_goto (tgt := 18) hx hb dX12_in_14 (by decide) ?_
      exact hw_iretR (v := 1) hx hb hr hlocks hQ rfl (Or.inl ⟨rfl, (by first | rfl | trivial | assumption | omega | (intros; first | rfl | assumption | omega | (exfalso; omega)))⟩) dX12_in_18

set_option maxHeartbeats 4000000 in
set_option maxRecDepth 100000 in
theorem k_X12_has (l : Launch) (D : hw_D) (G : Nat → Nat) (p1 : Int32) (p2 : Int32) (sz : Nat) : Met l yX12_has wsX12_has ({ frames := 0, cells := 0, slots := 0, locals := 0 } : Room) (hw_PC D G [.int p1, .int p2] sz (fun H => True)) (hw_QR (fun v => (v = .int 1) ∨ (v = .int 0))) 0 0 (fun _ => False) := by
  refine hw_met (cc := cX12_has) (maxL := 2) (ret := (some .boolean)) (plainFor_of_name (by decide)) rfl (Nat.le_of_ble_eq_true rfl) ?_
  intro p e s m args below meth c QQ ls hsz hx hb hml hr hts hown hlocks hnm hH hK hST hF hQ hl
  subst hsz
  have hS : va_S (hw_AW G [] s.heap.size) s.heap s.heap [] := va_S.rf
  have hl : lv_has ls 2 [(0, .int p1), (1, .int p2)] := hl
  refine lv_iload_n hx hb dX12_has_0 rfl (lv_at hl 0 rfl) ?_
  refine lv_iload_n hx hb dX12_has_1 rfl (lv_at hl 1 rfl) ?_
  refine lv_ishr hx hb dX12_has_2 ?_
  refine lv_topi (fun x1 e2 => ?_)
  refine lv_iconst (v := 1) hx hb dX12_has_3 (by decide) ?_
  refine lv_iand hx hb dX12_has_4 ?_
  refine lv_topi (fun x3 e4 => ?_)
  have t5 : 0 ≤ x3.toInt ∧ x3.toInt ≤ 1 := by rw [e4]; exact hw_and (by first | decide | omega)
  refine lv_iconst (v := 1) hx hb dX12_has_5 (by decide) ?_
  refine lv_icmp_ne (tgt := 13) hx hb dX12_has_6 (by decide) (fun c6 => ?_) (fun c6 => ?_)
  · have b7 : x3.toInt ≠ 1 := hw_ine c6
    refine lv_iconst (v := 0) hx hb dX12_has_13 (by decide) ?_
    exact hw_iretR (v := 0) hx hb hr hlocks hQ rfl (Or.inr (rfl)) dX12_has_14
  · have b8 : x3.toInt = 1 := hw_ieq c6
    refine lv_iconst (v := 1) hx hb dX12_has_9 (by decide) ?_
    refine lv_goto (tgt := 14) hx hb dX12_has_10 (by decide) ?_
    exact hw_iretR (v := 1) hx hb hr hlocks hQ rfl (Or.inl rfl) dX12_has_14

set_option maxHeartbeats 4000000 in
set_option maxRecDepth 100000 in
theorem k_X12_bits (l : Launch) (D : hw_D) (G : Nat → Nat) (p1 : Int32) (sz : Nat) : Met l yX12_bits wsX12_bits ({ frames := 0, cells := 0, slots := 0, locals := 0 } : Room) (hw_PC D G [.int p1] sz (fun H => True)) (hw_QR (fun v => ∃ (r : Int32), v = .int r ∧ (0 ≤ r.toInt ∧ r.toInt ≤ 9) ∧ (p1.toInt = 0 → r.toInt = 0))) 0 0 (fun _ => False) := by
  refine hw_met (cc := cX12_bits) (maxL := 3) (ret := (some .int)) (plainFor_of_name (by decide)) rfl (Nat.le_of_ble_eq_true rfl) ?_
  intro p e s m args below meth c QQ ls hsz hx hb hml hr hts hown hlocks hnm hH hK hST hF hQ hl
  subst hsz
  have hS : va_S (hw_AW G [] s.heap.size) s.heap s.heap [] := va_S.rf
  have hl : lv_has ls 3 [(0, .int p1)] := hl
  refine lv_iconst (v := 0) hx hb dX12_bits_0 (by decide) ?_
  refine lv_istore_n (lv' := [(1, .int 0), (0, .int p1)]) hx hb dX12_bits_1 rfl hl (by decide) rfl (fun ls hl => ?_)
  refine lv_iconst (v := 0) hx hb dX12_bits_2 (by decide) ?_
  refine lv_istore_n (lv' := [(2, .int 0), (1, .int 0), (0, .int p1)]) hx hb dX12_bits_3 rfl hl (by decide) rfl (fun ls hl => ?_)
  have L4 : ∀ (n5 : Nat) (y2_1 : Int32) (y1_2 : Int32) (hm : (9 - y2_1.toInt).toNat < n5) (g3 : 0 ≤ y1_2.toInt ∧ y1_2.toInt ≤ 9) (g4 : 0 ≤ y2_1.toInt ∧ y2_1.toInt ≤ 9) (inv4_0 : y1_2.toInt ≤ y2_1.toInt) (inv4_1 : p1.toInt = 0 → y1_2.toInt = 0) (ls : Array Slot) (hl : lv_has ls 3 [(2, .int y2_1), (1, .int y1_2), (0, .int p1)]), W p l e ({ frames := 0, cells := 0, slots := 0, locals := 0 } : Room) s m args below meth c s.heap [] 0 0 QQ (F0 m 4 ls []) := by
    intro n5
    induction n5 with
    | zero => intro y2_1 y1_2 hm; exact absurd hm (Nat.not_lt_zero _)
    | succ n5 ih4 =>
      intro y2_1 y1_2 hm g3 g4 inv4_0 inv4_1 ls hl
      refine lv_iload_n hx hb dX12_bits_4 rfl (lv_at hl 0 rfl) ?_
      refine lv_bipush (v := 9) hx hb dX12_bits_5 (by decide) ?_
      refine lv_icmp_ge (tgt := 24) hx hb dX12_bits_7 (by decide) (fun c6 => ?_) (fun c6 => ?_)
      · have b7 : 9 ≤ y2_1.toInt := hw_ile c6
        refine lv_iload_n hx hb dX12_bits_24 rfl (lv_at hl 1 rfl) ?_
        exact hw_iretR (v := y1_2) hx hb hr hlocks hQ rfl (⟨y1_2, rfl, ⟨by first | decide | omega, by first | decide | omega⟩, (by first | rfl | trivial | assumption | omega | (intros; first | rfl | assumption | omega | (exfalso; omega)))⟩) dX12_bits_25
      · have b8 : y2_1.toInt < 9 := hw_inle c6
        refine lv_iload_n hx hb dX12_bits_10 rfl (lv_at hl 1 rfl) ?_
        refine lv_iload_n hx hb dX12_bits_11 rfl (lv_at hl 2 rfl) ?_
        refine lv_iload_n hx hb dX12_bits_12 rfl (lv_at hl 0 rfl) ?_
        refine lv_ishr hx hb dX12_bits_13 ?_
        refine lv_topi (fun x9 e10 => ?_)
        refine lv_iconst (v := 1) hx hb dX12_bits_14 (by decide) ?_
        refine lv_iand hx hb dX12_bits_15 ?_
        refine lv_topi (fun x11 e12 => ?_)
        have t13 : 0 ≤ x11.toInt ∧ x11.toInt ≤ 1 := by rw [e12]; exact hw_and (by first | decide | omega)
        have hbz : p1.toInt = 0 → x11.toInt = 0 := by intro h9; rw [e12, e10, hw_z h9]; exact hw_ieq (hw_bit0 _)
        refine lv_iadd hx hb dX12_bits_16 ?_
        refine lv_topi (fun x14 e15 => ?_)
        have t16 : x14.toInt = y1_2.toInt + x11.toInt := by rw [e15]; exact hw_add rfl rfl (by omega) (by omega)
        refine lv_istore_n (lv' := [(1, .int x14), (2, .int y2_1), (0, .int p1)]) hx hb dX12_bits_17 rfl hl (by decide) rfl (fun ls hl => ?_)
        obtain ⟨x17, e18⟩ : ∃ y : Int32, y = y2_1 + 1 := ⟨_, rfl⟩
        refine lv_iinc (v := x17) (lv' := [(2, .int x17), (1, .int x14), (0, .int p1)]) hx hb dX12_bits_18 hl (k := 1) rfl (by rw [e18]; rfl) (by decide) rfl (fun ls hl => ?_)
        have t19 : x17.toInt = y2_1.toInt + 1 := by rw [e18]; exact hw_add rfl rfl (by omega) (by omega)
        refine lv_goto (tgt := 4) hx hb dX12_bits_21 (by decide) ?_
        exact ih4 x17 x14 (by first | omega | omega) ⟨by first | decide | omega, by first | decide | omega⟩ ⟨by first | decide | omega, by first | decide | omega⟩ (by first | assumption | omega | decide | rfl | (intros; first | rfl | assumption | omega)) (by intro h9; have h8 := inv4_1 h9; have h7 := hbz h9; omega) _ (lv_sub hl [0, 1, 2] rfl)
  exact L4 _ 0 0 (Nat.lt_succ_self _) ⟨by first | decide | omega, by first | decide | omega⟩ ⟨by first | decide | omega, by first | decide | omega⟩ (by first | assumption | omega | decide | rfl | (intros; first | rfl | assumption | omega)) (by first | assumption | omega | decide | rfl | (intros; first | rfl | assumption | omega)) _ (lv_sub hl [0, 1, 2] rfl)

set_option maxHeartbeats 4000000 in
set_option maxRecDepth 100000 in
theorem k_X12_apart (l : Launch) (D : hw_D) (G : Nat → Nat) (p1 : Int32) (p2 : Int32) (sz : Nat) : Met l yX12_apart wsX12_apart ({ frames := 0, cells := 0, slots := 0, locals := 0 } : Room) (hw_PC D G [.int p1, .int p2] sz (fun H => True)) (hw_QR (fun v => ∃ (r : Int32), v = .int r)) 0 0 (fun _ => False) := by
  refine hw_met (cc := cX12_apart) (maxL := 4) (ret := (some .int)) (plainFor_of_name (by decide)) rfl (Nat.le_of_ble_eq_true rfl) ?_
  intro p e s m args below meth c QQ ls hsz hx hb hml hr hts hown hlocks hnm hH hK hST hF hQ hl
  subst hsz
  have hS : va_S (hw_AW G [] s.heap.size) s.heap s.heap [] := va_S.rf
  have hl : lv_has ls 4 [(0, .int p1), (1, .int p2)] := hl
  refine lv_iload_n hx hb dX12_apart_0 rfl (lv_at hl 0 rfl) ?_
  refine lv_bipush (v := 10) hx hb dX12_apart_1 (by decide) ?_
  refine lv_idiv hx hb dX12_apart_3 (by decide) ?_
  refine lv_topi (fun x1 e2 => ?_)
  refine lv_iload_n hx hb dX12_apart_4 rfl (lv_at hl 1 rfl) ?_
  refine lv_bipush (v := 10) hx hb dX12_apart_5 (by decide) ?_
  refine lv_idiv hx hb dX12_apart_7 (by decide) ?_
  refine lv_topi (fun x3 e4 => ?_)
  refine lv_isub hx hb dX12_apart_8 ?_
  refine lv_topi (fun x5 e6 => ?_)
  refine lv_istore_n (lv' := [(2, .int x5), (0, .int p1), (1, .int p2)]) hx hb dX12_apart_9 rfl hl (by decide) rfl (fun ls hl => ?_)
  refine lv_iload_n hx hb dX12_apart_10 rfl (lv_at hl 1 rfl) ?_
  refine lv_bipush (v := 10) hx hb dX12_apart_11 (by decide) ?_
  refine lv_irem hx hb dX12_apart_13 (by decide) ?_
  refine lv_topi (fun x7 e8 => ?_)
  have t9 : (-10 < x7.toInt ∧ x7.toInt < 10) ∧ (0 ≤ p1.toInt → 0 ≤ x7.toInt) ∧ (p1.toInt ≤ 0 → x7.toInt ≤ 0) := by rw [e8]; exact hw_rem (by decide)
  refine lv_iload_n hx hb dX12_apart_14 rfl (lv_at hl 2 rfl) ?_
  refine lv_bipush (v := 10) hx hb dX12_apart_15 (by decide) ?_
  refine lv_irem hx hb dX12_apart_17 (by decide) ?_
  refine lv_topi (fun x10 e11 => ?_)
  have t12 : (-10 < x10.toInt ∧ x10.toInt < 10) ∧ (0 ≤ p2.toInt → 0 ≤ x10.toInt) ∧ (p2.toInt ≤ 0 → x10.toInt ≤ 0) := by rw [e11]; exact hw_rem (by decide)
  refine lv_isub hx hb dX12_apart_18 ?_
  refine lv_topi (fun x13 e14 => ?_)
  have t15 : x13.toInt = x7.toInt - x10.toInt := by rw [e14]; exact hw_sub rfl rfl (by omega) (by omega)
  refine lv_istore_n (lv' := [(3, .int x13), (2, .int x5), (0, .int p1), (1, .int p2)]) hx hb dX12_apart_19 rfl hl (by decide) rfl (fun ls hl => ?_)
  refine lv_iload_n hx hb dX12_apart_20 rfl (lv_at hl 1 rfl) ?_
  refine lv_if_ge (tgt := 29) hx hb dX12_apart_21 (by decide) (fun c16 => ?_) (fun c16 => ?_)
  · have b17 : 0 ≤ x5.toInt := hw_ile c16
    refine lv_iload_n hx hb dX12_apart_29 rfl (lv_at hl 1 rfl) ?_
    refine lv_iload_n hx hb dX12_apart_30 rfl (lv_at hl 0 rfl) ?_
    refine lv_if_ge (tgt := 39) hx hb dX12_apart_31 (by decide) (fun c18 => ?_) (fun c18 => ?_)
    · have b19 : 0 ≤ x13.toInt := hw_ile c18
      refine lv_iload_n hx hb dX12_apart_39 rfl (lv_at hl 0 rfl) ?_
      refine lv_iadd hx hb dX12_apart_40 ?_
      refine lv_topi (fun x20 e21 => ?_)
      exact hw_iretR (v := x20) hx hb hr hlocks hQ rfl (⟨x20, rfl⟩) dX12_apart_41
    · have b22 : x13.toInt < 0 := hw_inle c18
      refine lv_iload_n hx hb dX12_apart_34 rfl (lv_at hl 0 rfl) ?_
      refine lv_ineg hx hb dX12_apart_35 ?_
      refine lv_topi (fun x23 e24 => ?_)
      refine lv_goto (tgt := 40) hx hb dX12_apart_36 (by decide) ?_
      refine lv_iadd hx hb dX12_apart_40 ?_
      refine lv_topi (fun x25 e26 => ?_)
      exact hw_iretR (v := x25) hx hb hr hlocks hQ rfl (⟨x25, rfl⟩) dX12_apart_41
  · have b27 : x5.toInt < 0 := hw_inle c16
    refine lv_iload_n hx hb dX12_apart_24 rfl (lv_at hl 1 rfl) ?_
    refine lv_ineg hx hb dX12_apart_25 ?_
    refine lv_topi (fun x28 e29 => ?_)
    refine lv_goto (tgt := 30) hx hb dX12_apart_26 (by decide) ?_
    refine lv_iload_n hx hb dX12_apart_30 rfl (lv_at hl 0 rfl) ?_
    refine lv_if_ge (tgt := 39) hx hb dX12_apart_31 (by decide) (fun c30 => ?_) (fun c30 => ?_)
    · have b31 : 0 ≤ x13.toInt := hw_ile c30
      refine lv_iload_n hx hb dX12_apart_39 rfl (lv_at hl 0 rfl) ?_
      refine lv_iadd hx hb dX12_apart_40 ?_
      refine lv_topi (fun x32 e33 => ?_)
      exact hw_iretR (v := x32) hx hb hr hlocks hQ rfl (⟨x32, rfl⟩) dX12_apart_41
    · have b34 : x13.toInt < 0 := hw_inle c30
      refine lv_iload_n hx hb dX12_apart_34 rfl (lv_at hl 0 rfl) ?_
      refine lv_ineg hx hb dX12_apart_35 ?_
      refine lv_topi (fun x35 e36 => ?_)
      refine lv_goto (tgt := 40) hx hb dX12_apart_36 (by decide) ?_
      refine lv_iadd hx hb dX12_apart_40 ?_
      refine lv_topi (fun x37 e38 => ?_)
      exact hw_iretR (v := x37) hx hb hr hlocks hQ rfl (⟨x37, rfl⟩) dX12_apart_41

set_option maxHeartbeats 4000000 in
set_option maxRecDepth 100000 in
theorem k_X12_write (l : Launch) (D : hw_D) (G : Nat → Nat) (h0 : Nat) (p1 : Int32) (sz : Nat) (rm : Nat → Nat) (ud_m ky_m lo_m wk_m dk_m ln_m sm_m fi_m be_m rk_m rl_m rw_m cl_m dg_m : Int32) (G0 : G h0 = 9) (Rm : hw_RM G rm) (gud_m : 0 ≤ ud_m.toInt ∧ ud_m.toInt ≤ 8) (gky_m : 0 ≤ ky_m.toInt ∧ ky_m.toInt ≤ 7) (glo_m : 0 ≤ lo_m.toInt ∧ lo_m.toInt ≤ 7) (gwk_m : 0 ≤ wk_m.toInt ∧ wk_m.toInt ≤ 3) (gln_m : 0 ≤ ln_m.toInt ∧ ln_m.toInt ≤ 200) (gsm_m : 0 ≤ sm_m.toInt ∧ sm_m.toInt ≤ 6) (gfi_m : 0 ≤ fi_m.toInt ∧ fi_m.toInt ≤ 200) (gbe_m : 0 ≤ be_m.toInt ∧ be_m.toInt ≤ 200) (grk_m : 0 ≤ rk_m.toInt ∧ rk_m.toInt ≤ 7) (grl_m : 0 ≤ rl_m.toInt ∧ rl_m.toInt ≤ 7) (grw_m : 0 ≤ rw_m.toInt ∧ rw_m.toInt ≤ 3) (gdg_m : 0 ≤ dg_m.toInt ∧ dg_m.toInt ≤ 1) : Met l yX12_write wsX12_write ({ frames := 1, cells := 0, slots := 0, locals := 25 } : Room) (hw_PC D G [.ref h0, .int p1] sz (fun H => va_at D.1 vwCl (h0, .inr (11, hw_LM rm ud_m ky_m lo_m wk_m dk_m ln_m sm_m fi_m be_m rk_m rl_m rw_m cl_m dg_m)) H)) (hw_QM (fun v H => (∃ (ln_m2 : Int32), v = some (.int (-3)) ∧ hw_HT D G H ∧ va_at D.1 vwCl (h0, .inr (11, hw_LM rm ud_m ky_m lo_m wk_m dk_m ln_m2 sm_m fi_m be_m rk_m rl_m rw_m cl_m dg_m)) H ∧ (0 ≤ ln_m2.toInt ∧ ln_m2.toInt ≤ 200) ∧ (p1.toInt < 0 ∨ 255 < p1.toInt)) ∨ (∃ (ln_m2 : Int32), v = some (.int (-5)) ∧ hw_HT D G H ∧ va_at D.1 vwCl (h0, .inr (11, hw_LM rm ud_m ky_m lo_m wk_m dk_m ln_m2 sm_m fi_m be_m rk_m rl_m rw_m cl_m dg_m)) H ∧ (0 ≤ ln_m2.toInt ∧ ln_m2.toInt ≤ 200) ∧ (0 ≤ p1.toInt ∧ p1.toInt ≤ 255) ∧ ln_m.toInt = 200) ∨ (∃ (r : Int32) (ln_m2 : Int32), v = some (.int r) ∧ hw_HT D G H ∧ va_at D.1 vwCl (h0, .inr (11, hw_LM rm ud_m ky_m lo_m wk_m dk_m ln_m2 sm_m fi_m be_m rk_m rl_m rw_m cl_m dg_m)) H ∧ (0 ≤ ln_m2.toInt ∧ ln_m2.toInt ≤ 200) ∧ (0 ≤ p1.toInt ∧ p1.toInt ≤ 255) ∧ ln_m.toInt < 200 ∧ r.toInt = ln_m.toInt + 1)) (hw_AW G [9, 55] sz)) 0 0 (hw_AW G [9, 55] sz) := by
  refine hw_met (cc := cX12_write) (maxL := 2) (ret := (some .int)) (plainFor_of_name (by decide)) rfl (Nat.le_of_ble_eq_true rfl) ?_
  intro p e s m args below meth c QQ ls hsz hx hb hml hr hts hown hlocks hnm hH hK hST hF hQ hl
  subst hsz
  have hS : va_S (hw_AW G [9, 55] s.heap.size) s.heap s.heap [] := va_S.rf
  have vm := hF
  have hl : lv_has ls 2 [(0, .ref h0), (1, .int p1)] := hl
  have u_11 : ∀ w ∈ u_ws RX12 TX12 45, w.before args s = true := fun w hw => hts w ((by decide +kernel : ∀ w ∈ u_ws RX12 TX12 45, w ∈ wsX12_write) w hw)
  have fg_115_11 : hw_FG s args m 115 11 16 := ⟨RX12, "WardWalkersModel", RX12, TX12, 45, u_11, hown, rfl, by decide, (hts (.fieldLink RX12 115 "WardWalkersModel" "length" "I") (by decide +kernel)), (fun _ h9 => h9)⟩
  have fg_45_11 : hw_FG s args m 45 11 15 := ⟨RX12, "WardWalkersModel", RX12, TX12, 45, u_11, hown, rfl, by decide, (hts (.fieldLink RX12 45 "WardWalkersModel" "text" "[I") (by decide +kernel)), (fun _ h9 => h9)⟩
  have fp_115_11 : hw_FP s args m 115 11 16 false .int := ⟨RX12, "WardWalkersModel", RX12, TX12, 45, tyX12, u_11, hown, rfl, by decide, (hts (.fieldLink RX12 115 "WardWalkersModel" "length" "I") (by decide +kernel)), (fun _ h9 => h9), tyX12_ok, nmX12, rfl, (fun h => by cases h), by decide +kernel⟩
  refine lv_iload_n hx hb dX12_write_0 rfl (lv_at hl 1 rfl) ?_
  refine lv_i2l hx hb dX12_write_1 rfl ?_
  refine lv_topl (fun x1 e2 => ?_)
  have t3 : x1.toInt = p1.toInt := by rw [e2]; exact hw_i2l _
  have rg4 := hw_rng p1
  refine lv_lconst (v := 0) hx hb dX12_write_2 (by decide) ?_
  refine lv_ldc2 (v := 255) hx hb hown (hts (.constantLong RX12 109 (255)) (by decide +kernel)) dX12_write_3 ?_
  refine hw_cR (va_runS (As := [.long x1, .long 0, .long 255]) (rest := []) ⟨hx, hb, hml, hown, hts⟩ (k_X12_in l D G x1 0 255 _) (va_cwS 3 hts gX12_write_X12_in rfl rfl rfl (by decide +kernel) ⟨Nat.le_of_ble_eq_true rfl, Nat.le_of_ble_eq_true rfl⟩) (hw_pS hH hK hST hS (by decide) (fun _ h => Or.inl h) trivial) rfl rfl hl.1 rfl (lv_room (Nat.le_of_ble_eq_true rfl)) dX12_write_6 ⟨Nat.le_of_ble_eq_true rfl, Nat.le_of_ble_eq_true rfl⟩) (fun v hp => ?_)
  have l5 : (0 : Int64).toInt = 0 := by decide
  have l6 : (255 : Int64).toInt = 255 := by decide
  rcases hp with ⟨rfl, q7⟩ | ⟨rfl, q8⟩
  · refine lv_if_ne (tgt := 15) hx hb dX12_write_9 (by decide) (fun c9 => ?_) (fun c9 => ?_)
    · refine lv_aload_n hx hb dX12_write_15 rfl (lv_at hl 0 rfl) ?_
      refine hw_get hx hb fg_115_11 hK vm rfl dX12_write_16 ?_
      refine lv_sipush (v := 200) hx hb dX12_write_19 (by decide) ?_
      refine lv_icmp_ne (tgt := 28) hx hb dX12_write_22 (by decide) (fun c10 => ?_) (fun c10 => ?_)
      · have b11 : ln_m.toInt ≠ 200 := hw_ine c10
        refine lv_aload_n hx hb dX12_write_28 rfl (lv_at hl 0 rfl) ?_
        refine hw_get hx hb fg_45_11 hK vm rfl dX12_write_29 ?_
        refine lv_aload_n hx hb dX12_write_32 rfl (lv_at hl 0 rfl) ?_
        refine hw_get hx hb fg_115_11 hK vm rfl dX12_write_33 ?_
        refine lv_iload_n hx hb dX12_write_36 rfl (lv_at hl 1 rfl) ?_
        obtain ⟨f12, v13⟩ := hH.a55 (hw_RM_15 Rm)
        refine hw_iast hx hb hK hH v13 (hw_in (by omega) (by omega)) (fun _ => by rw [(hw_RM_15 Rm)]; exact ⟨_, rfl⟩) hS (hw_AWi (hw_RM_15 Rm) (by decide)) dX12_write_37 (fun H locs hH v13 oq hz hS => ?_)
        have vm := va_at.kept vm (oq _ (hw_ne G0 (hw_RM_15 Rm) (by decide)))
        refine lv_aload_n hx hb dX12_write_38 rfl (lv_at hl 0 rfl) ?_
        refine lv_dup hx hb dX12_write_39 rfl ?_
        refine hw_get hx hb fg_115_11 hK vm rfl dX12_write_40 ?_
        refine lv_iconst (v := 1) hx hb dX12_write_43 (by decide) ?_
        refine lv_iadd hx hb dX12_write_44 ?_
        refine lv_topi (fun x15 e16 => ?_)
        have t17 : x15.toInt = ln_m.toInt + 1 := by rw [e16]; exact hw_add rfl rfl (by omega) (by omega)
        refine hw_put (v := .int x15) (fs' := hw_LM rm ud_m ky_m lo_m wk_m dk_m x15 sm_m fi_m be_m rk_m rl_m rw_m cl_m dg_m) hx hb fp_115_11 hK hH vm (Nat.le_of_ble_eq_true rfl) rfl rfl rfl (fun _ => by rw [G0]; exact ⟨rm, ud_m, ky_m, lo_m, wk_m, dk_m, x15, sm_m, fi_m, be_m, rk_m, rl_m, rw_m, cl_m, dg_m, rfl, Rm, ⟨by first | decide | omega, by first | decide | omega⟩, ⟨by first | decide | omega, by first | decide | omega⟩, ⟨by first | decide | omega, by first | decide | omega⟩, ⟨by first | decide | omega, by first | decide | omega⟩, ⟨by first | decide | omega, by first | decide | omega⟩, ⟨by first | decide | omega, by first | decide | omega⟩, ⟨by first | decide | omega, by first | decide | omega⟩, ⟨by first | decide | omega, by first | decide | omega⟩, ⟨by first | decide | omega, by first | decide | omega⟩, ⟨by first | decide | omega, by first | decide | omega⟩, ⟨by first | decide | omega, by first | decide | omega⟩, ⟨by first | decide | omega, by first | decide | omega⟩⟩) hS (hw_AWi G0 (by decide)) dX12_write_45 (fun H locs hH vm oq hz hS => ?_)
        refine lv_aload_n hx hb dX12_write_48 rfl (lv_at hl 0 rfl) ?_
        refine hw_get hx hb fg_115_11 hK vm rfl dX12_write_49 ?_
        exact hw_iretM (v := x15) hx hb hr hlocks hQ hS rfl (Or.inr (Or.inr (⟨x15, x15, rfl, hH, vm, ⟨by first | decide | omega, by first | decide | omega⟩, (by first | rfl | trivial | assumption | omega | (intros; first | rfl | assumption | omega | (exfalso; omega))), (by first | rfl | trivial | assumption | omega | (intros; first | rfl | assumption | omega | (exfalso; omega))), (by first | rfl | trivial | assumption | omega | (intros; first | rfl | assumption | omega | (exfalso; omega)))⟩))) dX12_write_52
      · have b18 : ln_m.toInt = 200 := hw_ieq c10
        refine lv_bipush (v := (-5)) hx hb dX12_write_25 (by decide) ?_
        exact hw_iretM (v := (-5)) hx hb hr hlocks hQ hS rfl (Or.inr (Or.inl ⟨ln_m, rfl, hH, vm, ⟨by first | decide | omega, by first | decide | omega⟩, (by first | rfl | trivial | assumption | omega | (intros; first | rfl | assumption | omega | (exfalso; omega))), (by first | rfl | trivial | assumption | omega | (intros; first | rfl | assumption | omega | (exfalso; omega)))⟩)) dX12_write_27
    · exact absurd c9 (by decide)
  · refine lv_if_ne (tgt := 15) hx hb dX12_write_9 (by decide) (fun c19 => ?_) (fun c19 => ?_)
    · exact absurd c19 (by decide)
    · refine lv_bipush (v := (-3)) hx hb dX12_write_12 (by decide) ?_
      exact hw_iretM (v := (-3)) hx hb hr hlocks hQ hS rfl (Or.inl ⟨ln_m, rfl, hH, vm, ⟨by first | decide | omega, by first | decide | omega⟩, (by first | rfl | trivial | assumption | omega | (intros; first | rfl | assumption | omega | (exfalso; omega)))⟩) dX12_write_14

set_option maxHeartbeats 4000000 in
set_option maxRecDepth 100000 in
theorem k_X12_erase (l : Launch) (D : hw_D) (G : Nat → Nat) (h0 : Nat) (sz : Nat) (rm : Nat → Nat) (ud_m ky_m lo_m wk_m dk_m ln_m sm_m fi_m be_m rk_m rl_m rw_m cl_m dg_m : Int32) (G0 : G h0 = 9) (Rm : hw_RM G rm) (gud_m : 0 ≤ ud_m.toInt ∧ ud_m.toInt ≤ 8) (gky_m : 0 ≤ ky_m.toInt ∧ ky_m.toInt ≤ 7) (glo_m : 0 ≤ lo_m.toInt ∧ lo_m.toInt ≤ 7) (gwk_m : 0 ≤ wk_m.toInt ∧ wk_m.toInt ≤ 3) (gln_m : 0 ≤ ln_m.toInt ∧ ln_m.toInt ≤ 200) (gsm_m : 0 ≤ sm_m.toInt ∧ sm_m.toInt ≤ 6) (gfi_m : 0 ≤ fi_m.toInt ∧ fi_m.toInt ≤ 200) (gbe_m : 0 ≤ be_m.toInt ∧ be_m.toInt ≤ 200) (grk_m : 0 ≤ rk_m.toInt ∧ rk_m.toInt ≤ 7) (grl_m : 0 ≤ rl_m.toInt ∧ rl_m.toInt ≤ 7) (grw_m : 0 ≤ rw_m.toInt ∧ rw_m.toInt ≤ 3) (gdg_m : 0 ≤ dg_m.toInt ∧ dg_m.toInt ≤ 1) : Met l yX12_erase wsX12_erase ({ frames := 0, cells := 0, slots := 0, locals := 0 } : Room) (hw_PC D G [.ref h0] sz (fun H => va_at D.1 vwCl (h0, .inr (11, hw_LM rm ud_m ky_m lo_m wk_m dk_m ln_m sm_m fi_m be_m rk_m rl_m rw_m cl_m dg_m)) H)) (hw_QM (fun v H => ∃ (r : Int32) (ln_m2 : Int32), v = some (.int r) ∧ hw_HT D G H ∧ va_at D.1 vwCl (h0, .inr (11, hw_LM rm ud_m ky_m lo_m wk_m dk_m ln_m2 sm_m fi_m be_m rk_m rl_m rw_m cl_m dg_m)) H ∧ (0 ≤ ln_m2.toInt ∧ ln_m2.toInt ≤ 200) ∧ r = ln_m) (hw_AW G [9] sz)) 0 0 (hw_AW G [9] sz) := by
  refine hw_met (cc := cX12_erase) (maxL := 2) (ret := (some .int)) (plainFor_of_name (by decide)) rfl (Nat.le_of_ble_eq_true rfl) ?_
  intro p e s m args below meth c QQ ls hsz hx hb hml hr hts hown hlocks hnm hH hK hST hF hQ hl
  subst hsz
  have hS : va_S (hw_AW G [9] s.heap.size) s.heap s.heap [] := va_S.rf
  have vm := hF
  have hl : lv_has ls 2 [(0, .ref h0)] := hl
  have u_11 : ∀ w ∈ u_ws RX12 TX12 45, w.before args s = true := fun w hw => hts w ((by decide +kernel : ∀ w ∈ u_ws RX12 TX12 45, w ∈ wsX12_erase) w hw)
  have fg_115_11 : hw_FG s args m 115 11 16 := ⟨RX12, "WardWalkersModel", RX12, TX12, 45, u_11, hown, rfl, by decide, (hts (.fieldLink RX12 115 "WardWalkersModel" "length" "I") (by decide +kernel)), (fun _ h9 => h9)⟩
  have fp_115_11 : hw_FP s args m 115 11 16 false .int := ⟨RX12, "WardWalkersModel", RX12, TX12, 45, tyX12, u_11, hown, rfl, by decide, (hts (.fieldLink RX12 115 "WardWalkersModel" "length" "I") (by decide +kernel)), (fun _ h9 => h9), tyX12_ok, nmX12, rfl, (fun h => by cases h), by decide +kernel⟩
  refine lv_aload_n hx hb dX12_erase_0 rfl (lv_at hl 0 rfl) ?_
  refine hw_get hx hb fg_115_11 hK vm rfl dX12_erase_1 ?_
  refine lv_istore_n (lv' := [(1, .int ln_m), (0, .ref h0)]) hx hb dX12_erase_4 rfl hl (by decide) rfl (fun ls hl => ?_)
  refine lv_aload_n hx hb dX12_erase_5 rfl (lv_at hl 1 rfl) ?_
  refine lv_iconst (v := 0) hx hb dX12_erase_6 (by decide) ?_
  refine hw_put (v := .int 0) (fs' := hw_LM rm ud_m ky_m lo_m wk_m dk_m 0 sm_m fi_m be_m rk_m rl_m rw_m cl_m dg_m) hx hb fp_115_11 hK hH vm (Nat.le_of_ble_eq_true rfl) rfl rfl rfl (fun _ => by rw [G0]; exact ⟨rm, ud_m, ky_m, lo_m, wk_m, dk_m, 0, sm_m, fi_m, be_m, rk_m, rl_m, rw_m, cl_m, dg_m, rfl, Rm, ⟨by first | decide | omega, by first | decide | omega⟩, ⟨by first | decide | omega, by first | decide | omega⟩, ⟨by first | decide | omega, by first | decide | omega⟩, ⟨by first | decide | omega, by first | decide | omega⟩, ⟨by first | decide | omega, by first | decide | omega⟩, ⟨by first | decide | omega, by first | decide | omega⟩, ⟨by first | decide | omega, by first | decide | omega⟩, ⟨by first | decide | omega, by first | decide | omega⟩, ⟨by first | decide | omega, by first | decide | omega⟩, ⟨by first | decide | omega, by first | decide | omega⟩, ⟨by first | decide | omega, by first | decide | omega⟩, ⟨by first | decide | omega, by first | decide | omega⟩⟩) hS (hw_AWi G0 (by decide)) dX12_erase_7 (fun H locs hH vm oq hz hS => ?_)
  refine lv_iload_n hx hb dX12_erase_10 rfl (lv_at hl 0 rfl) ?_
  exact hw_iretM (v := ln_m) hx hb hr hlocks hQ hS rfl (⟨ln_m, 0, rfl, hH, vm, ⟨by first | decide | omega, by first | decide | omega⟩, (by first | rfl | trivial | assumption | omega | (intros; first | rfl | assumption | omega | (exfalso; omega)))⟩) dX12_erase_11

set_option maxHeartbeats 4000000 in
set_option maxRecDepth 100000 in
theorem k_X12_isLetter (l : Launch) (D : hw_D) (G : Nat → Nat) (p1 : Int32) (sz : Nat) : Met l yX12_isLetter wsX12_isLetter ({ frames := 1, cells := 0, slots := 0, locals := 25 } : Room) (hw_PC D G [.int p1] sz (fun H => True)) (hw_QR (fun v => (v = .int 1) ∨ (v = .int 0))) 0 0 (fun _ => False) := by
  refine hw_met (cc := cX12_isLetter) (maxL := 1) (ret := (some .boolean)) (plainFor_of_name (by decide)) rfl (Nat.le_of_ble_eq_true rfl) ?_
  intro p e s m args below meth c QQ ls hsz hx hb hml hr hts hown hlocks hnm hH hK hST hF hQ hl
  subst hsz
  have hS : va_S (hw_AW G [] s.heap.size) s.heap s.heap [] := va_S.rf
  have hl : lv_has ls 1 [(0, .int p1)] := hl
  refine lv_iload_n hx hb dX12_isLetter_0 rfl (lv_at hl 0 rfl) ?_
  refine lv_i2l hx hb dX12_isLetter_1 rfl ?_
  refine lv_topl (fun x1 e2 => ?_)
  have t3 : x1.toInt = p1.toInt := by rw [e2]; exact hw_i2l _
  have rg4 := hw_rng p1
  refine lv_ldc2 (v := 97) hx hb hown (hts (.constantLong RX12 118 (97)) (by decide +kernel)) dX12_isLetter_2 ?_
  refine lv_ldc2 (v := 122) hx hb hown (hts (.constantLong RX12 120 (122)) (by decide +kernel)) dX12_isLetter_5 ?_
  refine hw_cR (va_runS (As := [.long x1, .long 97, .long 122]) (rest := []) ⟨hx, hb, hml, hown, hts⟩ (k_X12_in l D G x1 97 122 _) (va_cwS 3 hts gX12_isLetter_X12_in rfl rfl rfl (by decide +kernel) ⟨Nat.le_of_ble_eq_true rfl, Nat.le_of_ble_eq_true rfl⟩) (hw_pS hH hK hST hS (by decide) (fun _ h => Or.inl h) trivial) rfl rfl hl.1 rfl (lv_room (Nat.le_of_ble_eq_true rfl)) dX12_isLetter_8 ⟨Nat.le_of_ble_eq_true rfl, Nat.le_of_ble_eq_true rfl⟩) (fun v hp => ?_)
  have l5 : (97 : Int64).toInt = 97 := by decide
  have l6 : (122 : Int64).toInt = 122 := by decide
  rcases hp with ⟨rfl, q7⟩ | ⟨rfl, q8⟩
  · exact hw_iretR (v := 1) hx hb hr hlocks hQ rfl (Or.inl rfl) dX12_isLetter_11
  · exact hw_iretR (v := 0) hx hb hr hlocks hQ rfl (Or.inr (rfl)) dX12_isLetter_11

set_option maxHeartbeats 4000000 in
set_option maxRecDepth 100000 in
theorem k_X12_isDigit (l : Launch) (D : hw_D) (G : Nat → Nat) (p1 : Int32) (sz : Nat) : Met l yX12_isDigit wsX12_isDigit ({ frames := 1, cells := 0, slots := 0, locals := 25 } : Room) (hw_PC D G [.int p1] sz (fun H => True)) (hw_QR (fun v => (v = .int 1) ∨ (v = .int 0))) 0 0 (fun _ => False) := by
  refine hw_met (cc := cX12_isDigit) (maxL := 1) (ret := (some .boolean)) (plainFor_of_name (by decide)) rfl (Nat.le_of_ble_eq_true rfl) ?_
  intro p e s m args below meth c QQ ls hsz hx hb hml hr hts hown hlocks hnm hH hK hST hF hQ hl
  subst hsz
  have hS : va_S (hw_AW G [] s.heap.size) s.heap s.heap [] := va_S.rf
  have hl : lv_has ls 1 [(0, .int p1)] := hl
  refine lv_iload_n hx hb dX12_isDigit_0 rfl (lv_at hl 0 rfl) ?_
  refine lv_i2l hx hb dX12_isDigit_1 rfl ?_
  refine lv_topl (fun x1 e2 => ?_)
  have t3 : x1.toInt = p1.toInt := by rw [e2]; exact hw_i2l _
  have rg4 := hw_rng p1
  refine lv_ldc2 (v := 48) hx hb hown (hts (.constantLong RX12 122 (48)) (by decide +kernel)) dX12_isDigit_2 ?_
  refine lv_ldc2 (v := 57) hx hb hown (hts (.constantLong RX12 124 (57)) (by decide +kernel)) dX12_isDigit_5 ?_
  refine hw_cR (va_runS (As := [.long x1, .long 48, .long 57]) (rest := []) ⟨hx, hb, hml, hown, hts⟩ (k_X12_in l D G x1 48 57 _) (va_cwS 3 hts gX12_isDigit_X12_in rfl rfl rfl (by decide +kernel) ⟨Nat.le_of_ble_eq_true rfl, Nat.le_of_ble_eq_true rfl⟩) (hw_pS hH hK hST hS (by decide) (fun _ h => Or.inl h) trivial) rfl rfl hl.1 rfl (lv_room (Nat.le_of_ble_eq_true rfl)) dX12_isDigit_8 ⟨Nat.le_of_ble_eq_true rfl, Nat.le_of_ble_eq_true rfl⟩) (fun v hp => ?_)
  have l5 : (48 : Int64).toInt = 48 := by decide
  have l6 : (57 : Int64).toInt = 57 := by decide
  rcases hp with ⟨rfl, q7⟩ | ⟨rfl, q8⟩
  · exact hw_iretR (v := 1) hx hb hr hlocks hQ rfl (Or.inl rfl) dX12_isDigit_11
  · exact hw_iretR (v := 0) hx hb hr hlocks hQ rfl (Or.inr (rfl)) dX12_isDigit_11

set_option maxHeartbeats 4000000 in
set_option maxRecDepth 100000 in
theorem k_X12_nextToken (l : Launch) (D : hw_D) (G : Nat → Nat) (h0 : Nat) (sz : Nat) (rm : Nat → Nat) (ud_m ky_m lo_m wk_m dk_m ln_m sm_m fi_m be_m rk_m rl_m rw_m cl_m dg_m : Int32) (G0 : G h0 = 9) (Rm : hw_RM G rm) (gud_m : 0 ≤ ud_m.toInt ∧ ud_m.toInt ≤ 8) (gky_m : 0 ≤ ky_m.toInt ∧ ky_m.toInt ≤ 7) (glo_m : 0 ≤ lo_m.toInt ∧ lo_m.toInt ≤ 7) (gwk_m : 0 ≤ wk_m.toInt ∧ wk_m.toInt ≤ 3) (gln_m : 0 ≤ ln_m.toInt ∧ ln_m.toInt ≤ 200) (gsm_m : 0 ≤ sm_m.toInt ∧ sm_m.toInt ≤ 6) (gfi_m : 0 ≤ fi_m.toInt ∧ fi_m.toInt ≤ 200) (gbe_m : 0 ≤ be_m.toInt ∧ be_m.toInt ≤ 200) (grk_m : 0 ≤ rk_m.toInt ∧ rk_m.toInt ≤ 7) (grl_m : 0 ≤ rl_m.toInt ∧ rl_m.toInt ≤ 7) (grw_m : 0 ≤ rw_m.toInt ∧ rw_m.toInt ≤ 3) (gdg_m : 0 ≤ dg_m.toInt ∧ dg_m.toInt ≤ 1) : Met l yX12_nextToken wsX12_nextToken ({ frames := 2, cells := 0, slots := 0, locals := 45 } : Room) (hw_PC D G [.ref h0] sz (fun H => va_at D.1 vwCl (h0, .inr (11, hw_LM rm ud_m ky_m lo_m wk_m dk_m ln_m sm_m fi_m be_m rk_m rl_m rw_m cl_m dg_m)) H)) (hw_QM (fun v H => ∃ (fi_m2 : Int32) (be_m2 : Int32), v = none ∧ hw_HT D G H ∧ va_at D.1 vwCl (h0, .inr (11, hw_LM rm ud_m ky_m lo_m wk_m dk_m ln_m sm_m fi_m2 be_m2 rk_m rl_m rw_m cl_m dg_m)) H ∧ (0 ≤ fi_m2.toInt ∧ fi_m2.toInt ≤ 200) ∧ (0 ≤ be_m2.toInt ∧ be_m2.toInt ≤ 200) ∧ be_m.toInt ≤ fi_m2.toInt ∧ fi_m2.toInt ≤ be_m2.toInt ∧ (be_m.toInt ≤ ln_m.toInt → fi_m2.toInt ≤ ln_m.toInt ∧ be_m2.toInt ≤ ln_m.toInt)) (hw_AW G [9] sz)) 0 0 (hw_AW G [9] sz) := by
  refine hw_met (cc := cX12_nextToken) (maxL := 1) (ret := none) (plainFor_of_name (by decide)) rfl (Nat.le_of_ble_eq_true rfl) ?_
  intro p e s m args below meth c QQ ls hsz hx hb hml hr hts hown hlocks hnm hH hK hST hF hQ hl
  subst hsz
  have hS : va_S (hw_AW G [9] s.heap.size) s.heap s.heap [] := va_S.rf
  have vm := hF
  have hl : lv_has ls 1 [(0, .ref h0)] := hl
  have u_11 : ∀ w ∈ u_ws RX12 TX12 45, w.before args s = true := fun w hw => hts w ((by decide +kernel : ∀ w ∈ u_ws RX12 TX12 45, w ∈ wsX12_nextToken) w hw)
  have fg_126_11 : hw_FG s args m 126 11 21 := ⟨RX12, "WardWalkersModel", RX12, TX12, 45, u_11, hown, rfl, by decide, (hts (.fieldLink RX12 126 "WardWalkersModel" "behind" "I") (by decide +kernel)), (fun _ h9 => h9)⟩
  have fp_129_11 : hw_FP s args m 129 11 20 false .int := ⟨RX12, "WardWalkersModel", RX12, TX12, 45, tyX12, u_11, hown, rfl, by decide, (hts (.fieldLink RX12 129 "WardWalkersModel" "first" "I") (by decide +kernel)), (fun _ h9 => h9), tyX12_ok, nmX12, rfl, (fun h => by cases h), by decide +kernel⟩
  have fg_129_11 : hw_FG s args m 129 11 20 := ⟨RX12, "WardWalkersModel", RX12, TX12, 45, u_11, hown, rfl, by decide, (hts (.fieldLink RX12 129 "WardWalkersModel" "first" "I") (by decide +kernel)), (fun _ h9 => h9)⟩
  have fg_115_11 : hw_FG s args m 115 11 16 := ⟨RX12, "WardWalkersModel", RX12, TX12, 45, u_11, hown, rfl, by decide, (hts (.fieldLink RX12 115 "WardWalkersModel" "length" "I") (by decide +kernel)), (fun _ h9 => h9)⟩
  have fp_126_11 : hw_FP s args m 126 11 21 false .int := ⟨RX12, "WardWalkersModel", RX12, TX12, 45, tyX12, u_11, hown, rfl, by decide, (hts (.fieldLink RX12 126 "WardWalkersModel" "behind" "I") (by decide +kernel)), (fun _ h9 => h9), tyX12_ok, nmX12, rfl, (fun h => by cases h), by decide +kernel⟩
  have fg_45_11 : hw_FG s args m 45 11 15 := ⟨RX12, "WardWalkersModel", RX12, TX12, 45, u_11, hown, rfl, by decide, (hts (.fieldLink RX12 45 "WardWalkersModel" "text" "[I") (by decide +kernel)), (fun _ h9 => h9)⟩
  refine lv_aload_n hx hb dX12_nextToken_0 rfl (lv_at hl 0 rfl) ?_
  refine lv_aload_n hx hb dX12_nextToken_1 rfl (lv_at hl 0 rfl) ?_
  refine hw_get hx hb fg_126_11 hK vm rfl dX12_nextToken_2 ?_
  refine hw_put (v := .int be_m) (fs' := hw_LM rm ud_m ky_m lo_m wk_m dk_m ln_m sm_m be_m be_m rk_m rl_m rw_m cl_m dg_m) hx hb fp_129_11 hK hH vm (Nat.le_of_ble_eq_true rfl) rfl rfl rfl (fun _ => by rw [G0]; exact ⟨rm, ud_m, ky_m, lo_m, wk_m, dk_m, ln_m, sm_m, be_m, be_m, rk_m, rl_m, rw_m, cl_m, dg_m, rfl, Rm, ⟨by first | decide | omega, by first | decide | omega⟩, ⟨by first | decide | omega, by first | decide | omega⟩, ⟨by first | decide | omega, by first | decide | omega⟩, ⟨by first | decide | omega, by first | decide | omega⟩, ⟨by first | decide | omega, by first | decide | omega⟩, ⟨by first | decide | omega, by first | decide | omega⟩, ⟨by first | decide | omega, by first | decide | omega⟩, ⟨by first | decide | omega, by first | decide | omega⟩, ⟨by first | decide | omega, by first | decide | omega⟩, ⟨by first | decide | omega, by first | decide | omega⟩, ⟨by first | decide | omega, by first | decide | omega⟩, ⟨by first | decide | omega, by first | decide | omega⟩⟩) hS (hw_AWi G0 (by decide)) dX12_nextToken_5 (fun H locs hH vm oq hz hS => ?_)
  have L8 : ∀ (n3 : Nat) (fi_1 : Int32) (hm : (200 - fi_1.toInt).toNat < n3) (g2 : 0 ≤ fi_1.toInt ∧ fi_1.toInt ≤ 200) (inv8_0 : be_m.toInt ≤ fi_1.toInt) (inv8_1 : be_m.toInt ≤ ln_m.toInt → fi_1.toInt ≤ ln_m.toInt) (H : Heap) (locs : List Loc) (hH : hw_HT D G H) (vm : va_at D.1 vwCl (h0, .inr (11, hw_LM rm ud_m ky_m lo_m wk_m dk_m ln_m sm_m fi_1 be_m rk_m rl_m rw_m cl_m dg_m)) H) (hS : va_S (hw_AW G [9] s.heap.size) s.heap H locs) (ls : Array Slot) (hl : lv_has ls 1 [(0, .ref h0)]), W p l e ({ frames := 2, cells := 0, slots := 0, locals := 45 } : Room) s m args below meth c H locs 0 0 QQ (F0 m 8 ls []) := by
    intro n3
    induction n3 with
    | zero => intro fi_1 hm; exact absurd hm (Nat.not_lt_zero _)
    | succ n3 ih8 =>
      intro fi_1 hm g2 inv8_0 inv8_1 H locs hH vm hS ls hl
      refine lv_aload_n hx hb dX12_nextToken_8 rfl (lv_at hl 0 rfl) ?_
      refine hw_get hx hb fg_129_11 hK vm rfl dX12_nextToken_9 ?_
      refine lv_aload_n hx hb dX12_nextToken_12 rfl (lv_at hl 0 rfl) ?_
      refine hw_get hx hb fg_115_11 hK vm rfl dX12_nextToken_13 ?_
      refine lv_icmp_ge (tgt := 46) hx hb dX12_nextToken_16 (by decide) (fun c4 => ?_) (fun c4 => ?_)
      · have b5 : ln_m.toInt ≤ fi_1.toInt := hw_ile c4
        refine lv_aload_n hx hb dX12_nextToken_46 rfl (lv_at hl 0 rfl) ?_
        refine lv_aload_n hx hb dX12_nextToken_47 rfl (lv_at hl 0 rfl) ?_
        refine hw_get hx hb fg_129_11 hK vm rfl dX12_nextToken_48 ?_
        refine lv_aload_n hx hb dX12_nextToken_51 rfl (lv_at hl 0 rfl) ?_
        refine hw_get hx hb fg_115_11 hK vm rfl dX12_nextToken_52 ?_
        refine lv_icmp_ge (tgt := 67) hx hb dX12_nextToken_55 (by decide) (fun c6 => ?_) (fun c6 => ?_)
        · have b7 : ln_m.toInt ≤ fi_1.toInt := hw_ile c6
          refine lv_aload_n hx hb dX12_nextToken_67 rfl (lv_at hl 0 rfl) ?_
          refine hw_get hx hb fg_129_11 hK vm rfl dX12_nextToken_68 ?_
          refine hw_put (v := .int fi_1) (fs' := hw_LM rm ud_m ky_m lo_m wk_m dk_m ln_m sm_m fi_1 fi_1 rk_m rl_m rw_m cl_m dg_m) hx hb fp_126_11 hK hH vm (Nat.le_of_ble_eq_true rfl) rfl rfl rfl (fun _ => by rw [G0]; exact ⟨rm, ud_m, ky_m, lo_m, wk_m, dk_m, ln_m, sm_m, fi_1, fi_1, rk_m, rl_m, rw_m, cl_m, dg_m, rfl, Rm, ⟨by first | decide | omega, by first | decide | omega⟩, ⟨by first | decide | omega, by first | decide | omega⟩, ⟨by first | decide | omega, by first | decide | omega⟩, ⟨by first | decide | omega, by first | decide | omega⟩, ⟨by first | decide | omega, by first | decide | omega⟩, ⟨by first | decide | omega, by first | decide | omega⟩, ⟨by first | decide | omega, by first | decide | omega⟩, ⟨by first | decide | omega, by first | decide | omega⟩, ⟨by first | decide | omega, by first | decide | omega⟩, ⟨by first | decide | omega, by first | decide | omega⟩, ⟨by first | decide | omega, by first | decide | omega⟩, ⟨by first | decide | omega, by first | decide | omega⟩⟩) hS (hw_AWi G0 (by decide)) dX12_nextToken_71 (fun H locs hH vm oq hz hS => ?_)
          refine lv_aload_n hx hb dX12_nextToken_74 rfl (lv_at hl 0 rfl) ?_
          refine hw_get hx hb fg_129_11 hK vm rfl dX12_nextToken_75 ?_
          refine lv_aload_n hx hb dX12_nextToken_78 rfl (lv_at hl 0 rfl) ?_
          refine hw_get hx hb fg_115_11 hK vm rfl dX12_nextToken_79 ?_
          refine lv_icmp_ge (tgt := 139) hx hb dX12_nextToken_82 (by decide) (fun c8 => ?_) (fun c8 => ?_)
          · have b9 : ln_m.toInt ≤ fi_1.toInt := hw_ile c8
            refine lv_aload_n hx hb dX12_nextToken_139 rfl (lv_at hl 0 rfl) ?_
            refine hw_get hx hb fg_129_11 hK vm rfl dX12_nextToken_140 ?_
            refine lv_aload_n hx hb dX12_nextToken_143 rfl (lv_at hl 0 rfl) ?_
            refine hw_get hx hb fg_115_11 hK vm rfl dX12_nextToken_144 ?_
            refine lv_icmp_ge (tgt := 204) hx hb dX12_nextToken_147 (by decide) (fun c10 => ?_) (fun c10 => ?_)
            · have b11 : ln_m.toInt ≤ fi_1.toInt := hw_ile c10
              exact hw_vretM hx hb hr hlocks hQ hS (⟨fi_1, fi_1, rfl, hH, vm, ⟨by first | decide | omega, by first | decide | omega⟩, ⟨by first | decide | omega, by first | decide | omega⟩, (by first | rfl | trivial | assumption | omega | (intros; first | rfl | assumption | omega | (exfalso; omega))), (by first | rfl | trivial | assumption | omega | (intros; first | rfl | assumption | omega | (exfalso; omega))), (by first | rfl | trivial | assumption | omega | (intros; first | rfl | assumption | omega | (exfalso; omega)))⟩) dX12_nextToken_204
            · have b12 : fi_1.toInt < ln_m.toInt := hw_inle c10
              refine lv_aload_n hx hb dX12_nextToken_150 rfl (lv_at hl 0 rfl) ?_
              refine hw_get hx hb fg_45_11 hK vm rfl dX12_nextToken_151 ?_
              refine lv_aload_n hx hb dX12_nextToken_154 rfl (lv_at hl 0 rfl) ?_
              refine hw_get hx hb fg_129_11 hK vm rfl dX12_nextToken_155 ?_
              obtain ⟨f13, v14⟩ := hH.a55 (hw_RM_15 Rm)
              refine hw_iald hx hb hK v14 (hw_in (by omega) (by omega)) dX12_nextToken_158 ?_
              refine lv_topi (fun x16 e17 => ?_)
              refine hw_cR (va_runS (As := [.int x16]) (rest := []) ⟨hx, hb, hml, hown, hts⟩ (k_X12_isDigit l D G x16 _) (va_cwS 1 hts gX12_nextToken_X12_isDigit rfl rfl rfl (by decide +kernel) ⟨Nat.le_of_ble_eq_true rfl, Nat.le_of_ble_eq_true rfl⟩) (hw_pS hH hK hST hS (by decide) (fun _ h => Or.inl h) trivial) rfl rfl hl.1 rfl (lv_room (Nat.le_of_ble_eq_true rfl)) dX12_nextToken_159 ⟨Nat.le_of_ble_eq_true rfl, Nat.le_of_ble_eq_true rfl⟩) (fun v hp => ?_)
              rcases hp with rfl | rfl
              · refine lv_if_eq (tgt := 204) hx hb dX12_nextToken_162 (by decide) (fun c18 => ?_) (fun c18 => ?_)
                · exact absurd c18 (by decide)
                · have L165 : ∀ (n21 : Nat) (be_19 : Int32) (hm : (200 - be_19.toInt).toNat < n21) (g20 : 0 ≤ be_19.toInt ∧ be_19.toInt ≤ 200) (inv165_0 : fi_1.toInt ≤ be_19.toInt) (inv165_1 : be_19.toInt ≤ ln_m.toInt) (H : Heap) (locs : List Loc) (hH : hw_HT D G H) (vm : va_at D.1 vwCl (h0, .inr (11, hw_LM rm ud_m ky_m lo_m wk_m dk_m ln_m sm_m fi_1 be_19 rk_m rl_m rw_m cl_m dg_m)) H) (hS : va_S (hw_AW G [9] s.heap.size) s.heap H locs) (ls : Array Slot) (hl : lv_has ls 1 [(0, .ref h0)]), W p l e ({ frames := 2, cells := 0, slots := 0, locals := 45 } : Room) s m args below meth c H locs 0 0 QQ (F0 m 165 ls []) := by
                    intro n21
                    induction n21 with
                    | zero => intro be_19 hm; exact absurd hm (Nat.not_lt_zero _)
                    | succ n21 ih165 =>
                      intro be_19 hm g20 inv165_0 inv165_1 H locs hH vm hS ls hl
                      refine lv_aload_n hx hb dX12_nextToken_165 rfl (lv_at hl 0 rfl) ?_
                      refine hw_get hx hb fg_126_11 hK vm rfl dX12_nextToken_166 ?_
                      refine lv_aload_n hx hb dX12_nextToken_169 rfl (lv_at hl 0 rfl) ?_
                      refine hw_get hx hb fg_115_11 hK vm rfl dX12_nextToken_170 ?_
                      refine lv_icmp_ge (tgt := 204) hx hb dX12_nextToken_173 (by decide) (fun c22 => ?_) (fun c22 => ?_)
                      · have b23 : ln_m.toInt ≤ be_19.toInt := hw_ile c22
                        exact hw_vretM hx hb hr hlocks hQ hS (⟨fi_1, be_19, rfl, hH, vm, ⟨by first | decide | omega, by first | decide | omega⟩, ⟨by first | decide | omega, by first | decide | omega⟩, (by first | rfl | trivial | assumption | omega | (intros; first | rfl | assumption | omega | (exfalso; omega))), (by first | rfl | trivial | assumption | omega | (intros; first | rfl | assumption | omega | (exfalso; omega))), (by first | rfl | trivial | assumption | omega | (intros; first | rfl | assumption | omega | (exfalso; omega)))⟩) dX12_nextToken_204
                      · have b24 : be_19.toInt < ln_m.toInt := hw_inle c22
                        refine lv_aload_n hx hb dX12_nextToken_176 rfl (lv_at hl 0 rfl) ?_
                        refine hw_get hx hb fg_45_11 hK vm rfl dX12_nextToken_177 ?_
                        refine lv_aload_n hx hb dX12_nextToken_180 rfl (lv_at hl 0 rfl) ?_
                        refine hw_get hx hb fg_126_11 hK vm rfl dX12_nextToken_181 ?_
                        obtain ⟨f25, v26⟩ := hH.a55 (hw_RM_15 Rm)
                        refine hw_iald hx hb hK v26 (hw_in (by omega) (by omega)) dX12_nextToken_184 ?_
                        refine lv_topi (fun x28 e29 => ?_)
                        refine hw_cR (va_runS (As := [.int x28]) (rest := []) ⟨hx, hb, hml, hown, hts⟩ (k_X12_isDigit l D G x28 _) (va_cwS 1 hts gX12_nextToken_X12_isDigit rfl rfl rfl (by decide +kernel) ⟨Nat.le_of_ble_eq_true rfl, Nat.le_of_ble_eq_true rfl⟩) (hw_pS hH hK hST hS (by decide) (fun _ h => Or.inl h) trivial) rfl rfl hl.1 rfl (lv_room (Nat.le_of_ble_eq_true rfl)) dX12_nextToken_185 ⟨Nat.le_of_ble_eq_true rfl, Nat.le_of_ble_eq_true rfl⟩) (fun v hp => ?_)
                        rcases hp with rfl | rfl
                        · refine lv_if_eq (tgt := 204) hx hb dX12_nextToken_188 (by decide) (fun c30 => ?_) (fun c30 => ?_)
                          · exact absurd c30 (by decide)
                          · refine lv_aload_n hx hb dX12_nextToken_191 rfl (lv_at hl 0 rfl) ?_
                            refine lv_dup hx hb dX12_nextToken_192 rfl ?_
                            refine hw_get hx hb fg_126_11 hK vm rfl dX12_nextToken_193 ?_
                            refine lv_iconst (v := 1) hx hb dX12_nextToken_196 (by decide) ?_
                            refine lv_iadd hx hb dX12_nextToken_197 ?_
                            refine lv_topi (fun x31 e32 => ?_)
                            have t33 : x31.toInt = be_19.toInt + 1 := by rw [e32]; exact hw_add rfl rfl (by omega) (by omega)
                            refine hw_put (v := .int x31) (fs' := hw_LM rm ud_m ky_m lo_m wk_m dk_m ln_m sm_m fi_1 x31 rk_m rl_m rw_m cl_m dg_m) hx hb fp_126_11 hK hH vm (Nat.le_of_ble_eq_true rfl) rfl rfl rfl (fun _ => by rw [G0]; exact ⟨rm, ud_m, ky_m, lo_m, wk_m, dk_m, ln_m, sm_m, fi_1, x31, rk_m, rl_m, rw_m, cl_m, dg_m, rfl, Rm, ⟨by first | decide | omega, by first | decide | omega⟩, ⟨by first | decide | omega, by first | decide | omega⟩, ⟨by first | decide | omega, by first | decide | omega⟩, ⟨by first | decide | omega, by first | decide | omega⟩, ⟨by first | decide | omega, by first | decide | omega⟩, ⟨by first | decide | omega, by first | decide | omega⟩, ⟨by first | decide | omega, by first | decide | omega⟩, ⟨by first | decide | omega, by first | decide | omega⟩, ⟨by first | decide | omega, by first | decide | omega⟩, ⟨by first | decide | omega, by first | decide | omega⟩, ⟨by first | decide | omega, by first | decide | omega⟩, ⟨by first | decide | omega, by first | decide | omega⟩⟩) hS (hw_AWi G0 (by decide)) dX12_nextToken_198 (fun H locs hH vm oq hz hS => ?_)
                            refine lv_goto (tgt := 165) hx hb dX12_nextToken_201 (by decide) ?_
                            exact ih165 x31 (by first | omega | omega) ⟨by first | decide | omega, by first | decide | omega⟩ (by first | assumption | omega | decide | rfl | (intros; first | rfl | assumption | omega)) (by first | assumption | omega | decide | rfl | (intros; first | rfl | assumption | omega)) _ _ hH vm hS _ (lv_sub hl [0] rfl)
                        · refine lv_if_eq (tgt := 204) hx hb dX12_nextToken_188 (by decide) (fun c34 => ?_) (fun c34 => ?_)
                          · exact hw_vretM hx hb hr hlocks hQ hS (⟨fi_1, be_19, rfl, hH, vm, ⟨by first | decide | omega, by first | decide | omega⟩, ⟨by first | decide | omega, by first | decide | omega⟩, (by first | rfl | trivial | assumption | omega | (intros; first | rfl | assumption | omega | (exfalso; omega))), (by first | rfl | trivial | assumption | omega | (intros; first | rfl | assumption | omega | (exfalso; omega))), (by first | rfl | trivial | assumption | omega | (intros; first | rfl | assumption | omega | (exfalso; omega)))⟩) dX12_nextToken_204
                          · exact absurd c34 (by decide)
                  exact L165 _ fi_1 (Nat.lt_succ_self _) ⟨by first | decide | omega, by first | decide | omega⟩ (by first | assumption | omega | decide | rfl | (intros; first | rfl | assumption | omega)) (by first | assumption | omega | decide | rfl | (intros; first | rfl | assumption | omega)) _ _ hH vm hS _ (lv_sub hl [0] rfl)
              · refine lv_if_eq (tgt := 204) hx hb dX12_nextToken_162 (by decide) (fun c35 => ?_) (fun c35 => ?_)
                · exact hw_vretM hx hb hr hlocks hQ hS (⟨fi_1, fi_1, rfl, hH, vm, ⟨by first | decide | omega, by first | decide | omega⟩, ⟨by first | decide | omega, by first | decide | omega⟩, (by first | rfl | trivial | assumption | omega | (intros; first | rfl | assumption | omega | (exfalso; omega))), (by first | rfl | trivial | assumption | omega | (intros; first | rfl | assumption | omega | (exfalso; omega))), (by first | rfl | trivial | assumption | omega | (intros; first | rfl | assumption | omega | (exfalso; omega)))⟩) dX12_nextToken_204
                · exact absurd c35 (by decide)
          · have b36 : fi_1.toInt < ln_m.toInt := hw_inle c8
            refine lv_aload_n hx hb dX12_nextToken_85 rfl (lv_at hl 0 rfl) ?_
            refine hw_get hx hb fg_45_11 hK vm rfl dX12_nextToken_86 ?_
            refine lv_aload_n hx hb dX12_nextToken_89 rfl (lv_at hl 0 rfl) ?_
            refine hw_get hx hb fg_129_11 hK vm rfl dX12_nextToken_90 ?_
            obtain ⟨f37, v38⟩ := hH.a55 (hw_RM_15 Rm)
            refine hw_iald hx hb hK v38 (hw_in (by omega) (by omega)) dX12_nextToken_93 ?_
            refine lv_topi (fun x40 e41 => ?_)
            refine hw_cR (va_runS (As := [.int x40]) (rest := []) ⟨hx, hb, hml, hown, hts⟩ (k_X12_isLetter l D G x40 _) (va_cwS 1 hts gX12_nextToken_X12_isLetter rfl rfl rfl (by decide +kernel) ⟨Nat.le_of_ble_eq_true rfl, Nat.le_of_ble_eq_true rfl⟩) (hw_pS hH hK hST hS (by decide) (fun _ h => Or.inl h) trivial) rfl rfl hl.1 rfl (lv_room (Nat.le_of_ble_eq_true rfl)) dX12_nextToken_94 ⟨Nat.le_of_ble_eq_true rfl, Nat.le_of_ble_eq_true rfl⟩) (fun v hp => ?_)
            rcases hp with rfl | rfl
            · refine lv_if_eq (tgt := 139) hx hb dX12_nextToken_97 (by decide) (fun c42 => ?_) (fun c42 => ?_)
              · exact absurd c42 (by decide)
              · have L100 : ∀ (n45 : Nat) (be_43 : Int32) (hm : (200 - be_43.toInt).toNat < n45) (g44 : 0 ≤ be_43.toInt ∧ be_43.toInt ≤ 200) (inv100_0 : fi_1.toInt ≤ be_43.toInt) (inv100_1 : be_43.toInt ≤ ln_m.toInt) (H : Heap) (locs : List Loc) (hH : hw_HT D G H) (vm : va_at D.1 vwCl (h0, .inr (11, hw_LM rm ud_m ky_m lo_m wk_m dk_m ln_m sm_m fi_1 be_43 rk_m rl_m rw_m cl_m dg_m)) H) (hS : va_S (hw_AW G [9] s.heap.size) s.heap H locs) (ls : Array Slot) (hl : lv_has ls 1 [(0, .ref h0)]), W p l e ({ frames := 2, cells := 0, slots := 0, locals := 45 } : Room) s m args below meth c H locs 0 0 QQ (F0 m 100 ls []) := by
                  intro n45
                  induction n45 with
                  | zero => intro be_43 hm; exact absurd hm (Nat.not_lt_zero _)
                  | succ n45 ih100 =>
                    intro be_43 hm g44 inv100_0 inv100_1 H locs hH vm hS ls hl
                    refine lv_aload_n hx hb dX12_nextToken_100 rfl (lv_at hl 0 rfl) ?_
                    refine hw_get hx hb fg_126_11 hK vm rfl dX12_nextToken_101 ?_
                    refine lv_aload_n hx hb dX12_nextToken_104 rfl (lv_at hl 0 rfl) ?_
                    refine hw_get hx hb fg_115_11 hK vm rfl dX12_nextToken_105 ?_
                    refine lv_icmp_ge (tgt := 204) hx hb dX12_nextToken_108 (by decide) (fun c46 => ?_) (fun c46 => ?_)
                    · have b47 : ln_m.toInt ≤ be_43.toInt := hw_ile c46
                      exact hw_vretM hx hb hr hlocks hQ hS (⟨fi_1, be_43, rfl, hH, vm, ⟨by first | decide | omega, by first | decide | omega⟩, ⟨by first | decide | omega, by first | decide | omega⟩, (by first | rfl | trivial | assumption | omega | (intros; first | rfl | assumption | omega | (exfalso; omega))), (by first | rfl | trivial | assumption | omega | (intros; first | rfl | assumption | omega | (exfalso; omega))), (by first | rfl | trivial | assumption | omega | (intros; first | rfl | assumption | omega | (exfalso; omega)))⟩) dX12_nextToken_204
                    · have b48 : be_43.toInt < ln_m.toInt := hw_inle c46
                      refine lv_aload_n hx hb dX12_nextToken_111 rfl (lv_at hl 0 rfl) ?_
                      refine hw_get hx hb fg_45_11 hK vm rfl dX12_nextToken_112 ?_
                      refine lv_aload_n hx hb dX12_nextToken_115 rfl (lv_at hl 0 rfl) ?_
                      refine hw_get hx hb fg_126_11 hK vm rfl dX12_nextToken_116 ?_
                      obtain ⟨f49, v50⟩ := hH.a55 (hw_RM_15 Rm)
                      refine hw_iald hx hb hK v50 (hw_in (by omega) (by omega)) dX12_nextToken_119 ?_
                      refine lv_topi (fun x52 e53 => ?_)
                      refine hw_cR (va_runS (As := [.int x52]) (rest := []) ⟨hx, hb, hml, hown, hts⟩ (k_X12_isLetter l D G x52 _) (va_cwS 1 hts gX12_nextToken_X12_isLetter rfl rfl rfl (by decide +kernel) ⟨Nat.le_of_ble_eq_true rfl, Nat.le_of_ble_eq_true rfl⟩) (hw_pS hH hK hST hS (by decide) (fun _ h => Or.inl h) trivial) rfl rfl hl.1 rfl (lv_room (Nat.le_of_ble_eq_true rfl)) dX12_nextToken_120 ⟨Nat.le_of_ble_eq_true rfl, Nat.le_of_ble_eq_true rfl⟩) (fun v hp => ?_)
                      rcases hp with rfl | rfl
                      · refine lv_if_eq (tgt := 204) hx hb dX12_nextToken_123 (by decide) (fun c54 => ?_) (fun c54 => ?_)
                        · exact absurd c54 (by decide)
                        · refine lv_aload_n hx hb dX12_nextToken_126 rfl (lv_at hl 0 rfl) ?_
                          refine lv_dup hx hb dX12_nextToken_127 rfl ?_
                          refine hw_get hx hb fg_126_11 hK vm rfl dX12_nextToken_128 ?_
                          refine lv_iconst (v := 1) hx hb dX12_nextToken_131 (by decide) ?_
                          refine lv_iadd hx hb dX12_nextToken_132 ?_
                          refine lv_topi (fun x55 e56 => ?_)
                          have t57 : x55.toInt = be_43.toInt + 1 := by rw [e56]; exact hw_add rfl rfl (by omega) (by omega)
                          refine hw_put (v := .int x55) (fs' := hw_LM rm ud_m ky_m lo_m wk_m dk_m ln_m sm_m fi_1 x55 rk_m rl_m rw_m cl_m dg_m) hx hb fp_126_11 hK hH vm (Nat.le_of_ble_eq_true rfl) rfl rfl rfl (fun _ => by rw [G0]; exact ⟨rm, ud_m, ky_m, lo_m, wk_m, dk_m, ln_m, sm_m, fi_1, x55, rk_m, rl_m, rw_m, cl_m, dg_m, rfl, Rm, ⟨by first | decide | omega, by first | decide | omega⟩, ⟨by first | decide | omega, by first | decide | omega⟩, ⟨by first | decide | omega, by first | decide | omega⟩, ⟨by first | decide | omega, by first | decide | omega⟩, ⟨by first | decide | omega, by first | decide | omega⟩, ⟨by first | decide | omega, by first | decide | omega⟩, ⟨by first | decide | omega, by first | decide | omega⟩, ⟨by first | decide | omega, by first | decide | omega⟩, ⟨by first | decide | omega, by first | decide | omega⟩, ⟨by first | decide | omega, by first | decide | omega⟩, ⟨by first | decide | omega, by first | decide | omega⟩, ⟨by first | decide | omega, by first | decide | omega⟩⟩) hS (hw_AWi G0 (by decide)) dX12_nextToken_133 (fun H locs hH vm oq hz hS => ?_)
                          refine lv_goto (tgt := 100) hx hb dX12_nextToken_136 (by decide) ?_
                          exact ih100 x55 (by first | omega | omega) ⟨by first | decide | omega, by first | decide | omega⟩ (by first | assumption | omega | decide | rfl | (intros; first | rfl | assumption | omega)) (by first | assumption | omega | decide | rfl | (intros; first | rfl | assumption | omega)) _ _ hH vm hS _ (lv_sub hl [0] rfl)
                      · refine lv_if_eq (tgt := 204) hx hb dX12_nextToken_123 (by decide) (fun c58 => ?_) (fun c58 => ?_)
                        · exact hw_vretM hx hb hr hlocks hQ hS (⟨fi_1, be_43, rfl, hH, vm, ⟨by first | decide | omega, by first | decide | omega⟩, ⟨by first | decide | omega, by first | decide | omega⟩, (by first | rfl | trivial | assumption | omega | (intros; first | rfl | assumption | omega | (exfalso; omega))), (by first | rfl | trivial | assumption | omega | (intros; first | rfl | assumption | omega | (exfalso; omega))), (by first | rfl | trivial | assumption | omega | (intros; first | rfl | assumption | omega | (exfalso; omega)))⟩) dX12_nextToken_204
                        · exact absurd c58 (by decide)
                exact L100 _ fi_1 (Nat.lt_succ_self _) ⟨by first | decide | omega, by first | decide | omega⟩ (by first | assumption | omega | decide | rfl | (intros; first | rfl | assumption | omega)) (by first | assumption | omega | decide | rfl | (intros; first | rfl | assumption | omega)) _ _ hH vm hS _ (lv_sub hl [0] rfl)
            · refine lv_if_eq (tgt := 139) hx hb dX12_nextToken_97 (by decide) (fun c59 => ?_) (fun c59 => ?_)
              · refine lv_aload_n hx hb dX12_nextToken_139 rfl (lv_at hl 0 rfl) ?_
                refine hw_get hx hb fg_129_11 hK vm rfl dX12_nextToken_140 ?_
                refine lv_aload_n hx hb dX12_nextToken_143 rfl (lv_at hl 0 rfl) ?_
                refine hw_get hx hb fg_115_11 hK vm rfl dX12_nextToken_144 ?_
                refine lv_icmp_ge (tgt := 204) hx hb dX12_nextToken_147 (by decide) (fun c60 => ?_) (fun c60 => ?_)
                · have b61 : ln_m.toInt ≤ fi_1.toInt := hw_ile c60
                  exact hw_vretM hx hb hr hlocks hQ hS (⟨fi_1, fi_1, rfl, hH, vm, ⟨by first | decide | omega, by first | decide | omega⟩, ⟨by first | decide | omega, by first | decide | omega⟩, (by first | rfl | trivial | assumption | omega | (intros; first | rfl | assumption | omega | (exfalso; omega))), (by first | rfl | trivial | assumption | omega | (intros; first | rfl | assumption | omega | (exfalso; omega))), (by first | rfl | trivial | assumption | omega | (intros; first | rfl | assumption | omega | (exfalso; omega)))⟩) dX12_nextToken_204
                · have b62 : fi_1.toInt < ln_m.toInt := hw_inle c60
                  refine lv_aload_n hx hb dX12_nextToken_150 rfl (lv_at hl 0 rfl) ?_
                  refine hw_get hx hb fg_45_11 hK vm rfl dX12_nextToken_151 ?_
                  refine lv_aload_n hx hb dX12_nextToken_154 rfl (lv_at hl 0 rfl) ?_
                  refine hw_get hx hb fg_129_11 hK vm rfl dX12_nextToken_155 ?_
                  obtain ⟨f63, v64⟩ := hH.a55 (hw_RM_15 Rm)
                  refine hw_iald hx hb hK v64 (hw_in (by omega) (by omega)) dX12_nextToken_158 ?_
                  refine lv_topi (fun x66 e67 => ?_)
                  refine hw_cR (va_runS (As := [.int x66]) (rest := []) ⟨hx, hb, hml, hown, hts⟩ (k_X12_isDigit l D G x66 _) (va_cwS 1 hts gX12_nextToken_X12_isDigit rfl rfl rfl (by decide +kernel) ⟨Nat.le_of_ble_eq_true rfl, Nat.le_of_ble_eq_true rfl⟩) (hw_pS hH hK hST hS (by decide) (fun _ h => Or.inl h) trivial) rfl rfl hl.1 rfl (lv_room (Nat.le_of_ble_eq_true rfl)) dX12_nextToken_159 ⟨Nat.le_of_ble_eq_true rfl, Nat.le_of_ble_eq_true rfl⟩) (fun v hp => ?_)
                  rcases hp with rfl | rfl
                  · refine lv_if_eq (tgt := 204) hx hb dX12_nextToken_162 (by decide) (fun c68 => ?_) (fun c68 => ?_)
                    · exact absurd c68 (by decide)
                    · have L165 : ∀ (n71 : Nat) (be_69 : Int32) (hm : (200 - be_69.toInt).toNat < n71) (g70 : 0 ≤ be_69.toInt ∧ be_69.toInt ≤ 200) (inv165_0 : fi_1.toInt ≤ be_69.toInt) (inv165_1 : be_69.toInt ≤ ln_m.toInt) (H : Heap) (locs : List Loc) (hH : hw_HT D G H) (vm : va_at D.1 vwCl (h0, .inr (11, hw_LM rm ud_m ky_m lo_m wk_m dk_m ln_m sm_m fi_1 be_69 rk_m rl_m rw_m cl_m dg_m)) H) (hS : va_S (hw_AW G [9] s.heap.size) s.heap H locs) (ls : Array Slot) (hl : lv_has ls 1 [(0, .ref h0)]), W p l e ({ frames := 2, cells := 0, slots := 0, locals := 45 } : Room) s m args below meth c H locs 0 0 QQ (F0 m 165 ls []) := by
                        intro n71
                        induction n71 with
                        | zero => intro be_69 hm; exact absurd hm (Nat.not_lt_zero _)
                        | succ n71 ih165 =>
                          intro be_69 hm g70 inv165_0 inv165_1 H locs hH vm hS ls hl
                          refine lv_aload_n hx hb dX12_nextToken_165 rfl (lv_at hl 0 rfl) ?_
                          refine hw_get hx hb fg_126_11 hK vm rfl dX12_nextToken_166 ?_
                          refine lv_aload_n hx hb dX12_nextToken_169 rfl (lv_at hl 0 rfl) ?_
                          refine hw_get hx hb fg_115_11 hK vm rfl dX12_nextToken_170 ?_
                          refine lv_icmp_ge (tgt := 204) hx hb dX12_nextToken_173 (by decide) (fun c72 => ?_) (fun c72 => ?_)
                          · have b73 : ln_m.toInt ≤ be_69.toInt := hw_ile c72
                            exact hw_vretM hx hb hr hlocks hQ hS (⟨fi_1, be_69, rfl, hH, vm, ⟨by first | decide | omega, by first | decide | omega⟩, ⟨by first | decide | omega, by first | decide | omega⟩, (by first | rfl | trivial | assumption | omega | (intros; first | rfl | assumption | omega | (exfalso; omega))), (by first | rfl | trivial | assumption | omega | (intros; first | rfl | assumption | omega | (exfalso; omega))), (by first | rfl | trivial | assumption | omega | (intros; first | rfl | assumption | omega | (exfalso; omega)))⟩) dX12_nextToken_204
                          · have b74 : be_69.toInt < ln_m.toInt := hw_inle c72
                            refine lv_aload_n hx hb dX12_nextToken_176 rfl (lv_at hl 0 rfl) ?_
                            refine hw_get hx hb fg_45_11 hK vm rfl dX12_nextToken_177 ?_
                            refine lv_aload_n hx hb dX12_nextToken_180 rfl (lv_at hl 0 rfl) ?_
                            refine hw_get hx hb fg_126_11 hK vm rfl dX12_nextToken_181 ?_
                            obtain ⟨f75, v76⟩ := hH.a55 (hw_RM_15 Rm)
                            refine hw_iald hx hb hK v76 (hw_in (by omega) (by omega)) dX12_nextToken_184 ?_
                            refine lv_topi (fun x78 e79 => ?_)
                            refine hw_cR (va_runS (As := [.int x78]) (rest := []) ⟨hx, hb, hml, hown, hts⟩ (k_X12_isDigit l D G x78 _) (va_cwS 1 hts gX12_nextToken_X12_isDigit rfl rfl rfl (by decide +kernel) ⟨Nat.le_of_ble_eq_true rfl, Nat.le_of_ble_eq_true rfl⟩) (hw_pS hH hK hST hS (by decide) (fun _ h => Or.inl h) trivial) rfl rfl hl.1 rfl (lv_room (Nat.le_of_ble_eq_true rfl)) dX12_nextToken_185 ⟨Nat.le_of_ble_eq_true rfl, Nat.le_of_ble_eq_true rfl⟩) (fun v hp => ?_)
                            rcases hp with rfl | rfl
                            · refine lv_if_eq (tgt := 204) hx hb dX12_nextToken_188 (by decide) (fun c80 => ?_) (fun c80 => ?_)
                              · exact absurd c80 (by decide)
                              · refine lv_aload_n hx hb dX12_nextToken_191 rfl (lv_at hl 0 rfl) ?_
                                refine lv_dup hx hb dX12_nextToken_192 rfl ?_
                                refine hw_get hx hb fg_126_11 hK vm rfl dX12_nextToken_193 ?_
                                refine lv_iconst (v := 1) hx hb dX12_nextToken_196 (by decide) ?_
                                refine lv_iadd hx hb dX12_nextToken_197 ?_
                                refine lv_topi (fun x81 e82 => ?_)
                                have t83 : x81.toInt = be_69.toInt + 1 := by rw [e82]; exact hw_add rfl rfl (by omega) (by omega)
                                refine hw_put (v := .int x81) (fs' := hw_LM rm ud_m ky_m lo_m wk_m dk_m ln_m sm_m fi_1 x81 rk_m rl_m rw_m cl_m dg_m) hx hb fp_126_11 hK hH vm (Nat.le_of_ble_eq_true rfl) rfl rfl rfl (fun _ => by rw [G0]; exact ⟨rm, ud_m, ky_m, lo_m, wk_m, dk_m, ln_m, sm_m, fi_1, x81, rk_m, rl_m, rw_m, cl_m, dg_m, rfl, Rm, ⟨by first | decide | omega, by first | decide | omega⟩, ⟨by first | decide | omega, by first | decide | omega⟩, ⟨by first | decide | omega, by first | decide | omega⟩, ⟨by first | decide | omega, by first | decide | omega⟩, ⟨by first | decide | omega, by first | decide | omega⟩, ⟨by first | decide | omega, by first | decide | omega⟩, ⟨by first | decide | omega, by first | decide | omega⟩, ⟨by first | decide | omega, by first | decide | omega⟩, ⟨by first | decide | omega, by first | decide | omega⟩, ⟨by first | decide | omega, by first | decide | omega⟩, ⟨by first | decide | omega, by first | decide | omega⟩, ⟨by first | decide | omega, by first | decide | omega⟩⟩) hS (hw_AWi G0 (by decide)) dX12_nextToken_198 (fun H locs hH vm oq hz hS => ?_)
                                refine lv_goto (tgt := 165) hx hb dX12_nextToken_201 (by decide) ?_
                                exact ih165 x81 (by first | omega | omega) ⟨by first | decide | omega, by first | decide | omega⟩ (by first | assumption | omega | decide | rfl | (intros; first | rfl | assumption | omega)) (by first | assumption | omega | decide | rfl | (intros; first | rfl | assumption | omega)) _ _ hH vm hS _ (lv_sub hl [0] rfl)
                            · refine lv_if_eq (tgt := 204) hx hb dX12_nextToken_188 (by decide) (fun c84 => ?_) (fun c84 => ?_)
                              · exact hw_vretM hx hb hr hlocks hQ hS (⟨fi_1, be_69, rfl, hH, vm, ⟨by first | decide | omega, by first | decide | omega⟩, ⟨by first | decide | omega, by first | decide | omega⟩, (by first | rfl | trivial | assumption | omega | (intros; first | rfl | assumption | omega | (exfalso; omega))), (by first | rfl | trivial | assumption | omega | (intros; first | rfl | assumption | omega | (exfalso; omega))), (by first | rfl | trivial | assumption | omega | (intros; first | rfl | assumption | omega | (exfalso; omega)))⟩) dX12_nextToken_204
                              · exact absurd c84 (by decide)
                      exact L165 _ fi_1 (Nat.lt_succ_self _) ⟨by first | decide | omega, by first | decide | omega⟩ (by first | assumption | omega | decide | rfl | (intros; first | rfl | assumption | omega)) (by first | assumption | omega | decide | rfl | (intros; first | rfl | assumption | omega)) _ _ hH vm hS _ (lv_sub hl [0] rfl)
                  · refine lv_if_eq (tgt := 204) hx hb dX12_nextToken_162 (by decide) (fun c85 => ?_) (fun c85 => ?_)
                    · exact hw_vretM hx hb hr hlocks hQ hS (⟨fi_1, fi_1, rfl, hH, vm, ⟨by first | decide | omega, by first | decide | omega⟩, ⟨by first | decide | omega, by first | decide | omega⟩, (by first | rfl | trivial | assumption | omega | (intros; first | rfl | assumption | omega | (exfalso; omega))), (by first | rfl | trivial | assumption | omega | (intros; first | rfl | assumption | omega | (exfalso; omega))), (by first | rfl | trivial | assumption | omega | (intros; first | rfl | assumption | omega | (exfalso; omega)))⟩) dX12_nextToken_204
                    · exact absurd c85 (by decide)
              · exact absurd c59 (by decide)
        · have b86 : fi_1.toInt < ln_m.toInt := hw_inle c6
          refine lv_aload_n hx hb dX12_nextToken_58 rfl (lv_at hl 0 rfl) ?_
          refine hw_get hx hb fg_129_11 hK vm rfl dX12_nextToken_59 ?_
          refine lv_iconst (v := 1) hx hb dX12_nextToken_62 (by decide) ?_
          refine lv_iadd hx hb dX12_nextToken_63 ?_
          refine lv_topi (fun x87 e88 => ?_)
          have t89 : x87.toInt = fi_1.toInt + 1 := by rw [e88]; exact hw_add rfl rfl (by omega) (by omega)
          refine lv_goto (tgt := 71) hx hb dX12_nextToken_64 (by decide) ?_
          refine hw_put (v := .int x87) (fs' := hw_LM rm ud_m ky_m lo_m wk_m dk_m ln_m sm_m fi_1 x87 rk_m rl_m rw_m cl_m dg_m) hx hb fp_126_11 hK hH vm (Nat.le_of_ble_eq_true rfl) rfl rfl rfl (fun _ => by rw [G0]; exact ⟨rm, ud_m, ky_m, lo_m, wk_m, dk_m, ln_m, sm_m, fi_1, x87, rk_m, rl_m, rw_m, cl_m, dg_m, rfl, Rm, ⟨by first | decide | omega, by first | decide | omega⟩, ⟨by first | decide | omega, by first | decide | omega⟩, ⟨by first | decide | omega, by first | decide | omega⟩, ⟨by first | decide | omega, by first | decide | omega⟩, ⟨by first | decide | omega, by first | decide | omega⟩, ⟨by first | decide | omega, by first | decide | omega⟩, ⟨by first | decide | omega, by first | decide | omega⟩, ⟨by first | decide | omega, by first | decide | omega⟩, ⟨by first | decide | omega, by first | decide | omega⟩, ⟨by first | decide | omega, by first | decide | omega⟩, ⟨by first | decide | omega, by first | decide | omega⟩, ⟨by first | decide | omega, by first | decide | omega⟩⟩) hS (hw_AWi G0 (by decide)) dX12_nextToken_71 (fun H locs hH vm oq hz hS => ?_)
          refine lv_aload_n hx hb dX12_nextToken_74 rfl (lv_at hl 0 rfl) ?_
          refine hw_get hx hb fg_129_11 hK vm rfl dX12_nextToken_75 ?_
          refine lv_aload_n hx hb dX12_nextToken_78 rfl (lv_at hl 0 rfl) ?_
          refine hw_get hx hb fg_115_11 hK vm rfl dX12_nextToken_79 ?_
          refine lv_icmp_ge (tgt := 139) hx hb dX12_nextToken_82 (by decide) (fun c90 => ?_) (fun c90 => ?_)
          · have b91 : ln_m.toInt ≤ fi_1.toInt := hw_ile c90
            refine lv_aload_n hx hb dX12_nextToken_139 rfl (lv_at hl 0 rfl) ?_
            refine hw_get hx hb fg_129_11 hK vm rfl dX12_nextToken_140 ?_
            refine lv_aload_n hx hb dX12_nextToken_143 rfl (lv_at hl 0 rfl) ?_
            refine hw_get hx hb fg_115_11 hK vm rfl dX12_nextToken_144 ?_
            refine lv_icmp_ge (tgt := 204) hx hb dX12_nextToken_147 (by decide) (fun c92 => ?_) (fun c92 => ?_)
            · have b93 : ln_m.toInt ≤ fi_1.toInt := hw_ile c92
              exact hw_vretM hx hb hr hlocks hQ hS (⟨fi_1, x87, rfl, hH, vm, ⟨by first | decide | omega, by first | decide | omega⟩, ⟨by first | decide | omega, by first | decide | omega⟩, (by first | rfl | trivial | assumption | omega | (intros; first | rfl | assumption | omega | (exfalso; omega))), (by first | rfl | trivial | assumption | omega | (intros; first | rfl | assumption | omega | (exfalso; omega))), (by first | rfl | trivial | assumption | omega | (intros; first | rfl | assumption | omega | (exfalso; omega)))⟩) dX12_nextToken_204
            · have b94 : fi_1.toInt < ln_m.toInt := hw_inle c92
              refine lv_aload_n hx hb dX12_nextToken_150 rfl (lv_at hl 0 rfl) ?_
              refine hw_get hx hb fg_45_11 hK vm rfl dX12_nextToken_151 ?_
              refine lv_aload_n hx hb dX12_nextToken_154 rfl (lv_at hl 0 rfl) ?_
              refine hw_get hx hb fg_129_11 hK vm rfl dX12_nextToken_155 ?_
              obtain ⟨f95, v96⟩ := hH.a55 (hw_RM_15 Rm)
              refine hw_iald hx hb hK v96 (hw_in (by omega) (by omega)) dX12_nextToken_158 ?_
              refine lv_topi (fun x98 e99 => ?_)
              refine hw_cR (va_runS (As := [.int x98]) (rest := []) ⟨hx, hb, hml, hown, hts⟩ (k_X12_isDigit l D G x98 _) (va_cwS 1 hts gX12_nextToken_X12_isDigit rfl rfl rfl (by decide +kernel) ⟨Nat.le_of_ble_eq_true rfl, Nat.le_of_ble_eq_true rfl⟩) (hw_pS hH hK hST hS (by decide) (fun _ h => Or.inl h) trivial) rfl rfl hl.1 rfl (lv_room (Nat.le_of_ble_eq_true rfl)) dX12_nextToken_159 ⟨Nat.le_of_ble_eq_true rfl, Nat.le_of_ble_eq_true rfl⟩) (fun v hp => ?_)
              rcases hp with rfl | rfl
              · refine lv_if_eq (tgt := 204) hx hb dX12_nextToken_162 (by decide) (fun c100 => ?_) (fun c100 => ?_)
                · exact absurd c100 (by decide)
                · have L165 : ∀ (n103 : Nat) (be_101 : Int32) (hm : (200 - be_101.toInt).toNat < n103) (g102 : 0 ≤ be_101.toInt ∧ be_101.toInt ≤ 200) (inv165_0 : fi_1.toInt ≤ be_101.toInt) (inv165_1 : be_101.toInt ≤ ln_m.toInt) (H : Heap) (locs : List Loc) (hH : hw_HT D G H) (vm : va_at D.1 vwCl (h0, .inr (11, hw_LM rm ud_m ky_m lo_m wk_m dk_m ln_m sm_m fi_1 be_101 rk_m rl_m rw_m cl_m dg_m)) H) (hS : va_S (hw_AW G [9] s.heap.size) s.heap H locs) (ls : Array Slot) (hl : lv_has ls 1 [(0, .ref h0)]), W p l e ({ frames := 2, cells := 0, slots := 0, locals := 45 } : Room) s m args below meth c H locs 0 0 QQ (F0 m 165 ls []) := by
                    intro n103
                    induction n103 with
                    | zero => intro be_101 hm; exact absurd hm (Nat.not_lt_zero _)
                    | succ n103 ih165 =>
                      intro be_101 hm g102 inv165_0 inv165_1 H locs hH vm hS ls hl
                      refine lv_aload_n hx hb dX12_nextToken_165 rfl (lv_at hl 0 rfl) ?_
                      refine hw_get hx hb fg_126_11 hK vm rfl dX12_nextToken_166 ?_
                      refine lv_aload_n hx hb dX12_nextToken_169 rfl (lv_at hl 0 rfl) ?_
                      refine hw_get hx hb fg_115_11 hK vm rfl dX12_nextToken_170 ?_
                      refine lv_icmp_ge (tgt := 204) hx hb dX12_nextToken_173 (by decide) (fun c104 => ?_) (fun c104 => ?_)
                      · have b105 : ln_m.toInt ≤ be_101.toInt := hw_ile c104
                        exact hw_vretM hx hb hr hlocks hQ hS (⟨fi_1, be_101, rfl, hH, vm, ⟨by first | decide | omega, by first | decide | omega⟩, ⟨by first | decide | omega, by first | decide | omega⟩, (by first | rfl | trivial | assumption | omega | (intros; first | rfl | assumption | omega | (exfalso; omega))), (by first | rfl | trivial | assumption | omega | (intros; first | rfl | assumption | omega | (exfalso; omega))), (by first | rfl | trivial | assumption | omega | (intros; first | rfl | assumption | omega | (exfalso; omega)))⟩) dX12_nextToken_204
                      · have b106 : be_101.toInt < ln_m.toInt := hw_inle c104
                        refine lv_aload_n hx hb dX12_nextToken_176 rfl (lv_at hl 0 rfl) ?_
                        refine hw_get hx hb fg_45_11 hK vm rfl dX12_nextToken_177 ?_
                        refine lv_aload_n hx hb dX12_nextToken_180 rfl (lv_at hl 0 rfl) ?_
                        refine hw_get hx hb fg_126_11 hK vm rfl dX12_nextToken_181 ?_
                        obtain ⟨f107, v108⟩ := hH.a55 (hw_RM_15 Rm)
                        refine hw_iald hx hb hK v108 (hw_in (by omega) (by omega)) dX12_nextToken_184 ?_
                        refine lv_topi (fun x110 e111 => ?_)
                        refine hw_cR (va_runS (As := [.int x110]) (rest := []) ⟨hx, hb, hml, hown, hts⟩ (k_X12_isDigit l D G x110 _) (va_cwS 1 hts gX12_nextToken_X12_isDigit rfl rfl rfl (by decide +kernel) ⟨Nat.le_of_ble_eq_true rfl, Nat.le_of_ble_eq_true rfl⟩) (hw_pS hH hK hST hS (by decide) (fun _ h => Or.inl h) trivial) rfl rfl hl.1 rfl (lv_room (Nat.le_of_ble_eq_true rfl)) dX12_nextToken_185 ⟨Nat.le_of_ble_eq_true rfl, Nat.le_of_ble_eq_true rfl⟩) (fun v hp => ?_)
                        rcases hp with rfl | rfl
                        · refine lv_if_eq (tgt := 204) hx hb dX12_nextToken_188 (by decide) (fun c112 => ?_) (fun c112 => ?_)
                          · exact absurd c112 (by decide)
                          · refine lv_aload_n hx hb dX12_nextToken_191 rfl (lv_at hl 0 rfl) ?_
                            refine lv_dup hx hb dX12_nextToken_192 rfl ?_
                            refine hw_get hx hb fg_126_11 hK vm rfl dX12_nextToken_193 ?_
                            refine lv_iconst (v := 1) hx hb dX12_nextToken_196 (by decide) ?_
                            refine lv_iadd hx hb dX12_nextToken_197 ?_
                            refine lv_topi (fun x113 e114 => ?_)
                            have t115 : x113.toInt = be_101.toInt + 1 := by rw [e114]; exact hw_add rfl rfl (by omega) (by omega)
                            refine hw_put (v := .int x113) (fs' := hw_LM rm ud_m ky_m lo_m wk_m dk_m ln_m sm_m fi_1 x113 rk_m rl_m rw_m cl_m dg_m) hx hb fp_126_11 hK hH vm (Nat.le_of_ble_eq_true rfl) rfl rfl rfl (fun _ => by rw [G0]; exact ⟨rm, ud_m, ky_m, lo_m, wk_m, dk_m, ln_m, sm_m, fi_1, x113, rk_m, rl_m, rw_m, cl_m, dg_m, rfl, Rm, ⟨by first | decide | omega, by first | decide | omega⟩, ⟨by first | decide | omega, by first | decide | omega⟩, ⟨by first | decide | omega, by first | decide | omega⟩, ⟨by first | decide | omega, by first | decide | omega⟩, ⟨by first | decide | omega, by first | decide | omega⟩, ⟨by first | decide | omega, by first | decide | omega⟩, ⟨by first | decide | omega, by first | decide | omega⟩, ⟨by first | decide | omega, by first | decide | omega⟩, ⟨by first | decide | omega, by first | decide | omega⟩, ⟨by first | decide | omega, by first | decide | omega⟩, ⟨by first | decide | omega, by first | decide | omega⟩, ⟨by first | decide | omega, by first | decide | omega⟩⟩) hS (hw_AWi G0 (by decide)) dX12_nextToken_198 (fun H locs hH vm oq hz hS => ?_)
                            refine lv_goto (tgt := 165) hx hb dX12_nextToken_201 (by decide) ?_
                            exact ih165 x113 (by first | omega | omega) ⟨by first | decide | omega, by first | decide | omega⟩ (by first | assumption | omega | decide | rfl | (intros; first | rfl | assumption | omega)) (by first | assumption | omega | decide | rfl | (intros; first | rfl | assumption | omega)) _ _ hH vm hS _ (lv_sub hl [0] rfl)
                        · refine lv_if_eq (tgt := 204) hx hb dX12_nextToken_188 (by decide) (fun c116 => ?_) (fun c116 => ?_)
                          · exact hw_vretM hx hb hr hlocks hQ hS (⟨fi_1, be_101, rfl, hH, vm, ⟨by first | decide | omega, by first | decide | omega⟩, ⟨by first | decide | omega, by first | decide | omega⟩, (by first | rfl | trivial | assumption | omega | (intros; first | rfl | assumption | omega | (exfalso; omega))), (by first | rfl | trivial | assumption | omega | (intros; first | rfl | assumption | omega | (exfalso; omega))), (by first | rfl | trivial | assumption | omega | (intros; first | rfl | assumption | omega | (exfalso; omega)))⟩) dX12_nextToken_204
                          · exact absurd c116 (by decide)
                  exact L165 _ x87 (Nat.lt_succ_self _) ⟨by first | decide | omega, by first | decide | omega⟩ (by first | assumption | omega | decide | rfl | (intros; first | rfl | assumption | omega)) (by first | assumption | omega | decide | rfl | (intros; first | rfl | assumption | omega)) _ _ hH vm hS _ (lv_sub hl [0] rfl)
              · refine lv_if_eq (tgt := 204) hx hb dX12_nextToken_162 (by decide) (fun c117 => ?_) (fun c117 => ?_)
                · exact hw_vretM hx hb hr hlocks hQ hS (⟨fi_1, x87, rfl, hH, vm, ⟨by first | decide | omega, by first | decide | omega⟩, ⟨by first | decide | omega, by first | decide | omega⟩, (by first | rfl | trivial | assumption | omega | (intros; first | rfl | assumption | omega | (exfalso; omega))), (by first | rfl | trivial | assumption | omega | (intros; first | rfl | assumption | omega | (exfalso; omega))), (by first | rfl | trivial | assumption | omega | (intros; first | rfl | assumption | omega | (exfalso; omega)))⟩) dX12_nextToken_204
                · exact absurd c117 (by decide)
          · have b118 : fi_1.toInt < ln_m.toInt := hw_inle c90
            refine lv_aload_n hx hb dX12_nextToken_85 rfl (lv_at hl 0 rfl) ?_
            refine hw_get hx hb fg_45_11 hK vm rfl dX12_nextToken_86 ?_
            refine lv_aload_n hx hb dX12_nextToken_89 rfl (lv_at hl 0 rfl) ?_
            refine hw_get hx hb fg_129_11 hK vm rfl dX12_nextToken_90 ?_
            obtain ⟨f119, v120⟩ := hH.a55 (hw_RM_15 Rm)
            refine hw_iald hx hb hK v120 (hw_in (by omega) (by omega)) dX12_nextToken_93 ?_
            refine lv_topi (fun x122 e123 => ?_)
            refine hw_cR (va_runS (As := [.int x122]) (rest := []) ⟨hx, hb, hml, hown, hts⟩ (k_X12_isLetter l D G x122 _) (va_cwS 1 hts gX12_nextToken_X12_isLetter rfl rfl rfl (by decide +kernel) ⟨Nat.le_of_ble_eq_true rfl, Nat.le_of_ble_eq_true rfl⟩) (hw_pS hH hK hST hS (by decide) (fun _ h => Or.inl h) trivial) rfl rfl hl.1 rfl (lv_room (Nat.le_of_ble_eq_true rfl)) dX12_nextToken_94 ⟨Nat.le_of_ble_eq_true rfl, Nat.le_of_ble_eq_true rfl⟩) (fun v hp => ?_)
            rcases hp with rfl | rfl
            · refine lv_if_eq (tgt := 139) hx hb dX12_nextToken_97 (by decide) (fun c124 => ?_) (fun c124 => ?_)
              · exact absurd c124 (by decide)
              · have L100 : ∀ (n127 : Nat) (be_125 : Int32) (hm : (200 - be_125.toInt).toNat < n127) (g126 : 0 ≤ be_125.toInt ∧ be_125.toInt ≤ 200) (inv100_0 : fi_1.toInt ≤ be_125.toInt) (inv100_1 : be_125.toInt ≤ ln_m.toInt) (H : Heap) (locs : List Loc) (hH : hw_HT D G H) (vm : va_at D.1 vwCl (h0, .inr (11, hw_LM rm ud_m ky_m lo_m wk_m dk_m ln_m sm_m fi_1 be_125 rk_m rl_m rw_m cl_m dg_m)) H) (hS : va_S (hw_AW G [9] s.heap.size) s.heap H locs) (ls : Array Slot) (hl : lv_has ls 1 [(0, .ref h0)]), W p l e ({ frames := 2, cells := 0, slots := 0, locals := 45 } : Room) s m args below meth c H locs 0 0 QQ (F0 m 100 ls []) := by
                  intro n127
                  induction n127 with
                  | zero => intro be_125 hm; exact absurd hm (Nat.not_lt_zero _)
                  | succ n127 ih100 =>
                    intro be_125 hm g126 inv100_0 inv100_1 H locs hH vm hS ls hl
                    refine lv_aload_n hx hb dX12_nextToken_100 rfl (lv_at hl 0 rfl) ?_
                    refine hw_get hx hb fg_126_11 hK vm rfl dX12_nextToken_101 ?_
                    refine lv_aload_n hx hb dX12_nextToken_104 rfl (lv_at hl 0 rfl) ?_
                    refine hw_get hx hb fg_115_11 hK vm rfl dX12_nextToken_105 ?_
                    refine lv_icmp_ge (tgt := 204) hx hb dX12_nextToken_108 (by decide) (fun c128 => ?_) (fun c128 => ?_)
                    · have b129 : ln_m.toInt ≤ be_125.toInt := hw_ile c128
                      exact hw_vretM hx hb hr hlocks hQ hS (⟨fi_1, be_125, rfl, hH, vm, ⟨by first | decide | omega, by first | decide | omega⟩, ⟨by first | decide | omega, by first | decide | omega⟩, (by first | rfl | trivial | assumption | omega | (intros; first | rfl | assumption | omega | (exfalso; omega))), (by first | rfl | trivial | assumption | omega | (intros; first | rfl | assumption | omega | (exfalso; omega))), (by first | rfl | trivial | assumption | omega | (intros; first | rfl | assumption | omega | (exfalso; omega)))⟩) dX12_nextToken_204
                    · have b130 : be_125.toInt < ln_m.toInt := hw_inle c128
                      refine lv_aload_n hx hb dX12_nextToken_111 rfl (lv_at hl 0 rfl) ?_
                      refine hw_get hx hb fg_45_11 hK vm rfl dX12_nextToken_112 ?_
                      refine lv_aload_n hx hb dX12_nextToken_115 rfl (lv_at hl 0 rfl) ?_
                      refine hw_get hx hb fg_126_11 hK vm rfl dX12_nextToken_116 ?_
                      obtain ⟨f131, v132⟩ := hH.a55 (hw_RM_15 Rm)
                      refine hw_iald hx hb hK v132 (hw_in (by omega) (by omega)) dX12_nextToken_119 ?_
                      refine lv_topi (fun x134 e135 => ?_)
                      refine hw_cR (va_runS (As := [.int x134]) (rest := []) ⟨hx, hb, hml, hown, hts⟩ (k_X12_isLetter l D G x134 _) (va_cwS 1 hts gX12_nextToken_X12_isLetter rfl rfl rfl (by decide +kernel) ⟨Nat.le_of_ble_eq_true rfl, Nat.le_of_ble_eq_true rfl⟩) (hw_pS hH hK hST hS (by decide) (fun _ h => Or.inl h) trivial) rfl rfl hl.1 rfl (lv_room (Nat.le_of_ble_eq_true rfl)) dX12_nextToken_120 ⟨Nat.le_of_ble_eq_true rfl, Nat.le_of_ble_eq_true rfl⟩) (fun v hp => ?_)
                      rcases hp with rfl | rfl
                      · refine lv_if_eq (tgt := 204) hx hb dX12_nextToken_123 (by decide) (fun c136 => ?_) (fun c136 => ?_)
                        · exact absurd c136 (by decide)
                        · refine lv_aload_n hx hb dX12_nextToken_126 rfl (lv_at hl 0 rfl) ?_
                          refine lv_dup hx hb dX12_nextToken_127 rfl ?_
                          refine hw_get hx hb fg_126_11 hK vm rfl dX12_nextToken_128 ?_
                          refine lv_iconst (v := 1) hx hb dX12_nextToken_131 (by decide) ?_
                          refine lv_iadd hx hb dX12_nextToken_132 ?_
                          refine lv_topi (fun x137 e138 => ?_)
                          have t139 : x137.toInt = be_125.toInt + 1 := by rw [e138]; exact hw_add rfl rfl (by omega) (by omega)
                          refine hw_put (v := .int x137) (fs' := hw_LM rm ud_m ky_m lo_m wk_m dk_m ln_m sm_m fi_1 x137 rk_m rl_m rw_m cl_m dg_m) hx hb fp_126_11 hK hH vm (Nat.le_of_ble_eq_true rfl) rfl rfl rfl (fun _ => by rw [G0]; exact ⟨rm, ud_m, ky_m, lo_m, wk_m, dk_m, ln_m, sm_m, fi_1, x137, rk_m, rl_m, rw_m, cl_m, dg_m, rfl, Rm, ⟨by first | decide | omega, by first | decide | omega⟩, ⟨by first | decide | omega, by first | decide | omega⟩, ⟨by first | decide | omega, by first | decide | omega⟩, ⟨by first | decide | omega, by first | decide | omega⟩, ⟨by first | decide | omega, by first | decide | omega⟩, ⟨by first | decide | omega, by first | decide | omega⟩, ⟨by first | decide | omega, by first | decide | omega⟩, ⟨by first | decide | omega, by first | decide | omega⟩, ⟨by first | decide | omega, by first | decide | omega⟩, ⟨by first | decide | omega, by first | decide | omega⟩, ⟨by first | decide | omega, by first | decide | omega⟩, ⟨by first | decide | omega, by first | decide | omega⟩⟩) hS (hw_AWi G0 (by decide)) dX12_nextToken_133 (fun H locs hH vm oq hz hS => ?_)
                          refine lv_goto (tgt := 100) hx hb dX12_nextToken_136 (by decide) ?_
                          exact ih100 x137 (by first | omega | omega) ⟨by first | decide | omega, by first | decide | omega⟩ (by first | assumption | omega | decide | rfl | (intros; first | rfl | assumption | omega)) (by first | assumption | omega | decide | rfl | (intros; first | rfl | assumption | omega)) _ _ hH vm hS _ (lv_sub hl [0] rfl)
                      · refine lv_if_eq (tgt := 204) hx hb dX12_nextToken_123 (by decide) (fun c140 => ?_) (fun c140 => ?_)
                        · exact hw_vretM hx hb hr hlocks hQ hS (⟨fi_1, be_125, rfl, hH, vm, ⟨by first | decide | omega, by first | decide | omega⟩, ⟨by first | decide | omega, by first | decide | omega⟩, (by first | rfl | trivial | assumption | omega | (intros; first | rfl | assumption | omega | (exfalso; omega))), (by first | rfl | trivial | assumption | omega | (intros; first | rfl | assumption | omega | (exfalso; omega))), (by first | rfl | trivial | assumption | omega | (intros; first | rfl | assumption | omega | (exfalso; omega)))⟩) dX12_nextToken_204
                        · exact absurd c140 (by decide)
                exact L100 _ x87 (Nat.lt_succ_self _) ⟨by first | decide | omega, by first | decide | omega⟩ (by first | assumption | omega | decide | rfl | (intros; first | rfl | assumption | omega)) (by first | assumption | omega | decide | rfl | (intros; first | rfl | assumption | omega)) _ _ hH vm hS _ (lv_sub hl [0] rfl)
            · refine lv_if_eq (tgt := 139) hx hb dX12_nextToken_97 (by decide) (fun c141 => ?_) (fun c141 => ?_)
              · refine lv_aload_n hx hb dX12_nextToken_139 rfl (lv_at hl 0 rfl) ?_
                refine hw_get hx hb fg_129_11 hK vm rfl dX12_nextToken_140 ?_
                refine lv_aload_n hx hb dX12_nextToken_143 rfl (lv_at hl 0 rfl) ?_
                refine hw_get hx hb fg_115_11 hK vm rfl dX12_nextToken_144 ?_
                refine lv_icmp_ge (tgt := 204) hx hb dX12_nextToken_147 (by decide) (fun c142 => ?_) (fun c142 => ?_)
                · have b143 : ln_m.toInt ≤ fi_1.toInt := hw_ile c142
                  exact hw_vretM hx hb hr hlocks hQ hS (⟨fi_1, x87, rfl, hH, vm, ⟨by first | decide | omega, by first | decide | omega⟩, ⟨by first | decide | omega, by first | decide | omega⟩, (by first | rfl | trivial | assumption | omega | (intros; first | rfl | assumption | omega | (exfalso; omega))), (by first | rfl | trivial | assumption | omega | (intros; first | rfl | assumption | omega | (exfalso; omega))), (by first | rfl | trivial | assumption | omega | (intros; first | rfl | assumption | omega | (exfalso; omega)))⟩) dX12_nextToken_204
                · have b144 : fi_1.toInt < ln_m.toInt := hw_inle c142
                  refine lv_aload_n hx hb dX12_nextToken_150 rfl (lv_at hl 0 rfl) ?_
                  refine hw_get hx hb fg_45_11 hK vm rfl dX12_nextToken_151 ?_
                  refine lv_aload_n hx hb dX12_nextToken_154 rfl (lv_at hl 0 rfl) ?_
                  refine hw_get hx hb fg_129_11 hK vm rfl dX12_nextToken_155 ?_
                  obtain ⟨f145, v146⟩ := hH.a55 (hw_RM_15 Rm)
                  refine hw_iald hx hb hK v146 (hw_in (by omega) (by omega)) dX12_nextToken_158 ?_
                  refine lv_topi (fun x148 e149 => ?_)
                  refine hw_cR (va_runS (As := [.int x148]) (rest := []) ⟨hx, hb, hml, hown, hts⟩ (k_X12_isDigit l D G x148 _) (va_cwS 1 hts gX12_nextToken_X12_isDigit rfl rfl rfl (by decide +kernel) ⟨Nat.le_of_ble_eq_true rfl, Nat.le_of_ble_eq_true rfl⟩) (hw_pS hH hK hST hS (by decide) (fun _ h => Or.inl h) trivial) rfl rfl hl.1 rfl (lv_room (Nat.le_of_ble_eq_true rfl)) dX12_nextToken_159 ⟨Nat.le_of_ble_eq_true rfl, Nat.le_of_ble_eq_true rfl⟩) (fun v hp => ?_)
                  rcases hp with rfl | rfl
                  · refine lv_if_eq (tgt := 204) hx hb dX12_nextToken_162 (by decide) (fun c150 => ?_) (fun c150 => ?_)
                    · exact absurd c150 (by decide)
                    · have L165 : ∀ (n153 : Nat) (be_151 : Int32) (hm : (200 - be_151.toInt).toNat < n153) (g152 : 0 ≤ be_151.toInt ∧ be_151.toInt ≤ 200) (inv165_0 : fi_1.toInt ≤ be_151.toInt) (inv165_1 : be_151.toInt ≤ ln_m.toInt) (H : Heap) (locs : List Loc) (hH : hw_HT D G H) (vm : va_at D.1 vwCl (h0, .inr (11, hw_LM rm ud_m ky_m lo_m wk_m dk_m ln_m sm_m fi_1 be_151 rk_m rl_m rw_m cl_m dg_m)) H) (hS : va_S (hw_AW G [9] s.heap.size) s.heap H locs) (ls : Array Slot) (hl : lv_has ls 1 [(0, .ref h0)]), W p l e ({ frames := 2, cells := 0, slots := 0, locals := 45 } : Room) s m args below meth c H locs 0 0 QQ (F0 m 165 ls []) := by
                        intro n153
                        induction n153 with
                        | zero => intro be_151 hm; exact absurd hm (Nat.not_lt_zero _)
                        | succ n153 ih165 =>
                          intro be_151 hm g152 inv165_0 inv165_1 H locs hH vm hS ls hl
                          refine lv_aload_n hx hb dX12_nextToken_165 rfl (lv_at hl 0 rfl) ?_
                          refine hw_get hx hb fg_126_11 hK vm rfl dX12_nextToken_166 ?_
                          refine lv_aload_n hx hb dX12_nextToken_169 rfl (lv_at hl 0 rfl) ?_
                          refine hw_get hx hb fg_115_11 hK vm rfl dX12_nextToken_170 ?_
                          refine lv_icmp_ge (tgt := 204) hx hb dX12_nextToken_173 (by decide) (fun c154 => ?_) (fun c154 => ?_)
                          · have b155 : ln_m.toInt ≤ be_151.toInt := hw_ile c154
                            exact hw_vretM hx hb hr hlocks hQ hS (⟨fi_1, be_151, rfl, hH, vm, ⟨by first | decide | omega, by first | decide | omega⟩, ⟨by first | decide | omega, by first | decide | omega⟩, (by first | rfl | trivial | assumption | omega | (intros; first | rfl | assumption | omega | (exfalso; omega))), (by first | rfl | trivial | assumption | omega | (intros; first | rfl | assumption | omega | (exfalso; omega))), (by first | rfl | trivial | assumption | omega | (intros; first | rfl | assumption | omega | (exfalso; omega)))⟩) dX12_nextToken_204
                          · have b156 : be_151.toInt < ln_m.toInt := hw_inle c154
                            refine lv_aload_n hx hb dX12_nextToken_176 rfl (lv_at hl 0 rfl) ?_
                            refine hw_get hx hb fg_45_11 hK vm rfl dX12_nextToken_177 ?_
                            refine lv_aload_n hx hb dX12_nextToken_180 rfl (lv_at hl 0 rfl) ?_
                            refine hw_get hx hb fg_126_11 hK vm rfl dX12_nextToken_181 ?_
                            obtain ⟨f157, v158⟩ := hH.a55 (hw_RM_15 Rm)
                            refine hw_iald hx hb hK v158 (hw_in (by omega) (by omega)) dX12_nextToken_184 ?_
                            refine lv_topi (fun x160 e161 => ?_)
                            refine hw_cR (va_runS (As := [.int x160]) (rest := []) ⟨hx, hb, hml, hown, hts⟩ (k_X12_isDigit l D G x160 _) (va_cwS 1 hts gX12_nextToken_X12_isDigit rfl rfl rfl (by decide +kernel) ⟨Nat.le_of_ble_eq_true rfl, Nat.le_of_ble_eq_true rfl⟩) (hw_pS hH hK hST hS (by decide) (fun _ h => Or.inl h) trivial) rfl rfl hl.1 rfl (lv_room (Nat.le_of_ble_eq_true rfl)) dX12_nextToken_185 ⟨Nat.le_of_ble_eq_true rfl, Nat.le_of_ble_eq_true rfl⟩) (fun v hp => ?_)
                            rcases hp with rfl | rfl
                            · refine lv_if_eq (tgt := 204) hx hb dX12_nextToken_188 (by decide) (fun c162 => ?_) (fun c162 => ?_)
                              · exact absurd c162 (by decide)
                              · refine lv_aload_n hx hb dX12_nextToken_191 rfl (lv_at hl 0 rfl) ?_
                                refine lv_dup hx hb dX12_nextToken_192 rfl ?_
                                refine hw_get hx hb fg_126_11 hK vm rfl dX12_nextToken_193 ?_
                                refine lv_iconst (v := 1) hx hb dX12_nextToken_196 (by decide) ?_
                                refine lv_iadd hx hb dX12_nextToken_197 ?_
                                refine lv_topi (fun x163 e164 => ?_)
                                have t165 : x163.toInt = be_151.toInt + 1 := by rw [e164]; exact hw_add rfl rfl (by omega) (by omega)
                                refine hw_put (v := .int x163) (fs' := hw_LM rm ud_m ky_m lo_m wk_m dk_m ln_m sm_m fi_1 x163 rk_m rl_m rw_m cl_m dg_m) hx hb fp_126_11 hK hH vm (Nat.le_of_ble_eq_true rfl) rfl rfl rfl (fun _ => by rw [G0]; exact ⟨rm, ud_m, ky_m, lo_m, wk_m, dk_m, ln_m, sm_m, fi_1, x163, rk_m, rl_m, rw_m, cl_m, dg_m, rfl, Rm, ⟨by first | decide | omega, by first | decide | omega⟩, ⟨by first | decide | omega, by first | decide | omega⟩, ⟨by first | decide | omega, by first | decide | omega⟩, ⟨by first | decide | omega, by first | decide | omega⟩, ⟨by first | decide | omega, by first | decide | omega⟩, ⟨by first | decide | omega, by first | decide | omega⟩, ⟨by first | decide | omega, by first | decide | omega⟩, ⟨by first | decide | omega, by first | decide | omega⟩, ⟨by first | decide | omega, by first | decide | omega⟩, ⟨by first | decide | omega, by first | decide | omega⟩, ⟨by first | decide | omega, by first | decide | omega⟩, ⟨by first | decide | omega, by first | decide | omega⟩⟩) hS (hw_AWi G0 (by decide)) dX12_nextToken_198 (fun H locs hH vm oq hz hS => ?_)
                                refine lv_goto (tgt := 165) hx hb dX12_nextToken_201 (by decide) ?_
                                exact ih165 x163 (by first | omega | omega) ⟨by first | decide | omega, by first | decide | omega⟩ (by first | assumption | omega | decide | rfl | (intros; first | rfl | assumption | omega)) (by first | assumption | omega | decide | rfl | (intros; first | rfl | assumption | omega)) _ _ hH vm hS _ (lv_sub hl [0] rfl)
                            · refine lv_if_eq (tgt := 204) hx hb dX12_nextToken_188 (by decide) (fun c166 => ?_) (fun c166 => ?_)
                              · exact hw_vretM hx hb hr hlocks hQ hS (⟨fi_1, be_151, rfl, hH, vm, ⟨by first | decide | omega, by first | decide | omega⟩, ⟨by first | decide | omega, by first | decide | omega⟩, (by first | rfl | trivial | assumption | omega | (intros; first | rfl | assumption | omega | (exfalso; omega))), (by first | rfl | trivial | assumption | omega | (intros; first | rfl | assumption | omega | (exfalso; omega))), (by first | rfl | trivial | assumption | omega | (intros; first | rfl | assumption | omega | (exfalso; omega)))⟩) dX12_nextToken_204
                              · exact absurd c166 (by decide)
                      exact L165 _ x87 (Nat.lt_succ_self _) ⟨by first | decide | omega, by first | decide | omega⟩ (by first | assumption | omega | decide | rfl | (intros; first | rfl | assumption | omega)) (by first | assumption | omega | decide | rfl | (intros; first | rfl | assumption | omega)) _ _ hH vm hS _ (lv_sub hl [0] rfl)
                  · refine lv_if_eq (tgt := 204) hx hb dX12_nextToken_162 (by decide) (fun c167 => ?_) (fun c167 => ?_)
                    · exact hw_vretM hx hb hr hlocks hQ hS (⟨fi_1, x87, rfl, hH, vm, ⟨by first | decide | omega, by first | decide | omega⟩, ⟨by first | decide | omega, by first | decide | omega⟩, (by first | rfl | trivial | assumption | omega | (intros; first | rfl | assumption | omega | (exfalso; omega))), (by first | rfl | trivial | assumption | omega | (intros; first | rfl | assumption | omega | (exfalso; omega))), (by first | rfl | trivial | assumption | omega | (intros; first | rfl | assumption | omega | (exfalso; omega)))⟩) dX12_nextToken_204
                    · exact absurd c167 (by decide)
              · exact absurd c141 (by decide)
      · have b168 : fi_1.toInt < ln_m.toInt := hw_inle c4
        refine lv_aload_n hx hb dX12_nextToken_19 rfl (lv_at hl 0 rfl) ?_
        refine hw_get hx hb fg_45_11 hK vm rfl dX12_nextToken_20 ?_
        refine lv_aload_n hx hb dX12_nextToken_23 rfl (lv_at hl 0 rfl) ?_
        refine hw_get hx hb fg_129_11 hK vm rfl dX12_nextToken_24 ?_
        obtain ⟨f169, v170⟩ := hH.a55 (hw_RM_15 Rm)
        refine hw_iald hx hb hK v170 (hw_in (by omega) (by omega)) dX12_nextToken_27 ?_
        refine lv_topi (fun x172 e173 => ?_)
        refine lv_bipush (v := 32) hx hb dX12_nextToken_28 (by decide) ?_
        refine lv_icmp_ne (tgt := 46) hx hb dX12_nextToken_30 (by decide) (fun c174 => ?_) (fun c174 => ?_)
        · have b175 : x172.toInt ≠ 32 := hw_ine c174
          refine lv_aload_n hx hb dX12_nextToken_46 rfl (lv_at hl 0 rfl) ?_
          refine lv_aload_n hx hb dX12_nextToken_47 rfl (lv_at hl 0 rfl) ?_
          refine hw_get hx hb fg_129_11 hK vm rfl dX12_nextToken_48 ?_
          refine lv_aload_n hx hb dX12_nextToken_51 rfl (lv_at hl 0 rfl) ?_
          refine hw_get hx hb fg_115_11 hK vm rfl dX12_nextToken_52 ?_
          refine lv_icmp_ge (tgt := 67) hx hb dX12_nextToken_55 (by decide) (fun c176 => ?_) (fun c176 => ?_)
          · have b177 : ln_m.toInt ≤ fi_1.toInt := hw_ile c176
            refine lv_aload_n hx hb dX12_nextToken_67 rfl (lv_at hl 0 rfl) ?_
            refine hw_get hx hb fg_129_11 hK vm rfl dX12_nextToken_68 ?_
            refine hw_put (v := .int fi_1) (fs' := hw_LM rm ud_m ky_m lo_m wk_m dk_m ln_m sm_m fi_1 fi_1 rk_m rl_m rw_m cl_m dg_m) hx hb fp_126_11 hK hH vm (Nat.le_of_ble_eq_true rfl) rfl rfl rfl (fun _ => by rw [G0]; exact ⟨rm, ud_m, ky_m, lo_m, wk_m, dk_m, ln_m, sm_m, fi_1, fi_1, rk_m, rl_m, rw_m, cl_m, dg_m, rfl, Rm, ⟨by first | decide | omega, by first | decide | omega⟩, ⟨by first | decide | omega, by first | decide | omega⟩, ⟨by first | decide | omega, by first | decide | omega⟩, ⟨by first | decide | omega, by first | decide | omega⟩, ⟨by first | decide | omega, by first | decide | omega⟩, ⟨by first | decide | omega, by first | decide | omega⟩, ⟨by first | decide | omega, by first | decide | omega⟩, ⟨by first | decide | omega, by first | decide | omega⟩, ⟨by first | decide | omega, by first | decide | omega⟩, ⟨by first | decide | omega, by first | decide | omega⟩, ⟨by first | decide | omega, by first | decide | omega⟩, ⟨by first | decide | omega, by first | decide | omega⟩⟩) hS (hw_AWi G0 (by decide)) dX12_nextToken_71 (fun H locs hH vm oq hz hS => ?_)
            refine lv_aload_n hx hb dX12_nextToken_74 rfl (lv_at hl 0 rfl) ?_
            refine hw_get hx hb fg_129_11 hK vm rfl dX12_nextToken_75 ?_
            refine lv_aload_n hx hb dX12_nextToken_78 rfl (lv_at hl 0 rfl) ?_
            refine hw_get hx hb fg_115_11 hK vm rfl dX12_nextToken_79 ?_
            refine lv_icmp_ge (tgt := 139) hx hb dX12_nextToken_82 (by decide) (fun c178 => ?_) (fun c178 => ?_)
            · have b179 : ln_m.toInt ≤ fi_1.toInt := hw_ile c178
              refine lv_aload_n hx hb dX12_nextToken_139 rfl (lv_at hl 0 rfl) ?_
              refine hw_get hx hb fg_129_11 hK vm rfl dX12_nextToken_140 ?_
              refine lv_aload_n hx hb dX12_nextToken_143 rfl (lv_at hl 0 rfl) ?_
              refine hw_get hx hb fg_115_11 hK vm rfl dX12_nextToken_144 ?_
              refine lv_icmp_ge (tgt := 204) hx hb dX12_nextToken_147 (by decide) (fun c180 => ?_) (fun c180 => ?_)
              · have b181 : ln_m.toInt ≤ fi_1.toInt := hw_ile c180
                exact hw_vretM hx hb hr hlocks hQ hS (⟨fi_1, fi_1, rfl, hH, vm, ⟨by first | decide | omega, by first | decide | omega⟩, ⟨by first | decide | omega, by first | decide | omega⟩, (by first | rfl | trivial | assumption | omega | (intros; first | rfl | assumption | omega | (exfalso; omega))), (by first | rfl | trivial | assumption | omega | (intros; first | rfl | assumption | omega | (exfalso; omega))), (by first | rfl | trivial | assumption | omega | (intros; first | rfl | assumption | omega | (exfalso; omega)))⟩) dX12_nextToken_204
              · have b182 : fi_1.toInt < ln_m.toInt := hw_inle c180
                refine lv_aload_n hx hb dX12_nextToken_150 rfl (lv_at hl 0 rfl) ?_
                refine hw_get hx hb fg_45_11 hK vm rfl dX12_nextToken_151 ?_
                refine lv_aload_n hx hb dX12_nextToken_154 rfl (lv_at hl 0 rfl) ?_
                refine hw_get hx hb fg_129_11 hK vm rfl dX12_nextToken_155 ?_
                obtain ⟨f183, v184⟩ := hH.a55 (hw_RM_15 Rm)
                refine hw_iald hx hb hK v184 (hw_in (by omega) (by omega)) dX12_nextToken_158 ?_
                refine lv_topi (fun x186 e187 => ?_)
                refine hw_cR (va_runS (As := [.int x186]) (rest := []) ⟨hx, hb, hml, hown, hts⟩ (k_X12_isDigit l D G x186 _) (va_cwS 1 hts gX12_nextToken_X12_isDigit rfl rfl rfl (by decide +kernel) ⟨Nat.le_of_ble_eq_true rfl, Nat.le_of_ble_eq_true rfl⟩) (hw_pS hH hK hST hS (by decide) (fun _ h => Or.inl h) trivial) rfl rfl hl.1 rfl (lv_room (Nat.le_of_ble_eq_true rfl)) dX12_nextToken_159 ⟨Nat.le_of_ble_eq_true rfl, Nat.le_of_ble_eq_true rfl⟩) (fun v hp => ?_)
                rcases hp with rfl | rfl
                · refine lv_if_eq (tgt := 204) hx hb dX12_nextToken_162 (by decide) (fun c188 => ?_) (fun c188 => ?_)
                  · exact absurd c188 (by decide)
                  · have L165 : ∀ (n191 : Nat) (be_189 : Int32) (hm : (200 - be_189.toInt).toNat < n191) (g190 : 0 ≤ be_189.toInt ∧ be_189.toInt ≤ 200) (inv165_0 : fi_1.toInt ≤ be_189.toInt) (inv165_1 : be_189.toInt ≤ ln_m.toInt) (H : Heap) (locs : List Loc) (hH : hw_HT D G H) (vm : va_at D.1 vwCl (h0, .inr (11, hw_LM rm ud_m ky_m lo_m wk_m dk_m ln_m sm_m fi_1 be_189 rk_m rl_m rw_m cl_m dg_m)) H) (hS : va_S (hw_AW G [9] s.heap.size) s.heap H locs) (ls : Array Slot) (hl : lv_has ls 1 [(0, .ref h0)]), W p l e ({ frames := 2, cells := 0, slots := 0, locals := 45 } : Room) s m args below meth c H locs 0 0 QQ (F0 m 165 ls []) := by
                      intro n191
                      induction n191 with
                      | zero => intro be_189 hm; exact absurd hm (Nat.not_lt_zero _)
                      | succ n191 ih165 =>
                        intro be_189 hm g190 inv165_0 inv165_1 H locs hH vm hS ls hl
                        refine lv_aload_n hx hb dX12_nextToken_165 rfl (lv_at hl 0 rfl) ?_
                        refine hw_get hx hb fg_126_11 hK vm rfl dX12_nextToken_166 ?_
                        refine lv_aload_n hx hb dX12_nextToken_169 rfl (lv_at hl 0 rfl) ?_
                        refine hw_get hx hb fg_115_11 hK vm rfl dX12_nextToken_170 ?_
                        refine lv_icmp_ge (tgt := 204) hx hb dX12_nextToken_173 (by decide) (fun c192 => ?_) (fun c192 => ?_)
                        · have b193 : ln_m.toInt ≤ be_189.toInt := hw_ile c192
                          exact hw_vretM hx hb hr hlocks hQ hS (⟨fi_1, be_189, rfl, hH, vm, ⟨by first | decide | omega, by first | decide | omega⟩, ⟨by first | decide | omega, by first | decide | omega⟩, (by first | rfl | trivial | assumption | omega | (intros; first | rfl | assumption | omega | (exfalso; omega))), (by first | rfl | trivial | assumption | omega | (intros; first | rfl | assumption | omega | (exfalso; omega))), (by first | rfl | trivial | assumption | omega | (intros; first | rfl | assumption | omega | (exfalso; omega)))⟩) dX12_nextToken_204
                        · have b194 : be_189.toInt < ln_m.toInt := hw_inle c192
                          refine lv_aload_n hx hb dX12_nextToken_176 rfl (lv_at hl 0 rfl) ?_
                          refine hw_get hx hb fg_45_11 hK vm rfl dX12_nextToken_177 ?_
                          refine lv_aload_n hx hb dX12_nextToken_180 rfl (lv_at hl 0 rfl) ?_
                          refine hw_get hx hb fg_126_11 hK vm rfl dX12_nextToken_181 ?_
                          obtain ⟨f195, v196⟩ := hH.a55 (hw_RM_15 Rm)
                          refine hw_iald hx hb hK v196 (hw_in (by omega) (by omega)) dX12_nextToken_184 ?_
                          refine lv_topi (fun x198 e199 => ?_)
                          refine hw_cR (va_runS (As := [.int x198]) (rest := []) ⟨hx, hb, hml, hown, hts⟩ (k_X12_isDigit l D G x198 _) (va_cwS 1 hts gX12_nextToken_X12_isDigit rfl rfl rfl (by decide +kernel) ⟨Nat.le_of_ble_eq_true rfl, Nat.le_of_ble_eq_true rfl⟩) (hw_pS hH hK hST hS (by decide) (fun _ h => Or.inl h) trivial) rfl rfl hl.1 rfl (lv_room (Nat.le_of_ble_eq_true rfl)) dX12_nextToken_185 ⟨Nat.le_of_ble_eq_true rfl, Nat.le_of_ble_eq_true rfl⟩) (fun v hp => ?_)
                          rcases hp with rfl | rfl
                          · refine lv_if_eq (tgt := 204) hx hb dX12_nextToken_188 (by decide) (fun c200 => ?_) (fun c200 => ?_)
                            · exact absurd c200 (by decide)
                            · refine lv_aload_n hx hb dX12_nextToken_191 rfl (lv_at hl 0 rfl) ?_
                              refine lv_dup hx hb dX12_nextToken_192 rfl ?_
                              refine hw_get hx hb fg_126_11 hK vm rfl dX12_nextToken_193 ?_
                              refine lv_iconst (v := 1) hx hb dX12_nextToken_196 (by decide) ?_
                              refine lv_iadd hx hb dX12_nextToken_197 ?_
                              refine lv_topi (fun x201 e202 => ?_)
                              have t203 : x201.toInt = be_189.toInt + 1 := by rw [e202]; exact hw_add rfl rfl (by omega) (by omega)
                              refine hw_put (v := .int x201) (fs' := hw_LM rm ud_m ky_m lo_m wk_m dk_m ln_m sm_m fi_1 x201 rk_m rl_m rw_m cl_m dg_m) hx hb fp_126_11 hK hH vm (Nat.le_of_ble_eq_true rfl) rfl rfl rfl (fun _ => by rw [G0]; exact ⟨rm, ud_m, ky_m, lo_m, wk_m, dk_m, ln_m, sm_m, fi_1, x201, rk_m, rl_m, rw_m, cl_m, dg_m, rfl, Rm, ⟨by first | decide | omega, by first | decide | omega⟩, ⟨by first | decide | omega, by first | decide | omega⟩, ⟨by first | decide | omega, by first | decide | omega⟩, ⟨by first | decide | omega, by first | decide | omega⟩, ⟨by first | decide | omega, by first | decide | omega⟩, ⟨by first | decide | omega, by first | decide | omega⟩, ⟨by first | decide | omega, by first | decide | omega⟩, ⟨by first | decide | omega, by first | decide | omega⟩, ⟨by first | decide | omega, by first | decide | omega⟩, ⟨by first | decide | omega, by first | decide | omega⟩, ⟨by first | decide | omega, by first | decide | omega⟩, ⟨by first | decide | omega, by first | decide | omega⟩⟩) hS (hw_AWi G0 (by decide)) dX12_nextToken_198 (fun H locs hH vm oq hz hS => ?_)
                              refine lv_goto (tgt := 165) hx hb dX12_nextToken_201 (by decide) ?_
                              exact ih165 x201 (by first | omega | omega) ⟨by first | decide | omega, by first | decide | omega⟩ (by first | assumption | omega | decide | rfl | (intros; first | rfl | assumption | omega)) (by first | assumption | omega | decide | rfl | (intros; first | rfl | assumption | omega)) _ _ hH vm hS _ (lv_sub hl [0] rfl)
                          · refine lv_if_eq (tgt := 204) hx hb dX12_nextToken_188 (by decide) (fun c204 => ?_) (fun c204 => ?_)
                            · exact hw_vretM hx hb hr hlocks hQ hS (⟨fi_1, be_189, rfl, hH, vm, ⟨by first | decide | omega, by first | decide | omega⟩, ⟨by first | decide | omega, by first | decide | omega⟩, (by first | rfl | trivial | assumption | omega | (intros; first | rfl | assumption | omega | (exfalso; omega))), (by first | rfl | trivial | assumption | omega | (intros; first | rfl | assumption | omega | (exfalso; omega))), (by first | rfl | trivial | assumption | omega | (intros; first | rfl | assumption | omega | (exfalso; omega)))⟩) dX12_nextToken_204
                            · exact absurd c204 (by decide)
                    exact L165 _ fi_1 (Nat.lt_succ_self _) ⟨by first | decide | omega, by first | decide | omega⟩ (by first | assumption | omega | decide | rfl | (intros; first | rfl | assumption | omega)) (by first | assumption | omega | decide | rfl | (intros; first | rfl | assumption | omega)) _ _ hH vm hS _ (lv_sub hl [0] rfl)
                · refine lv_if_eq (tgt := 204) hx hb dX12_nextToken_162 (by decide) (fun c205 => ?_) (fun c205 => ?_)
                  · exact hw_vretM hx hb hr hlocks hQ hS (⟨fi_1, fi_1, rfl, hH, vm, ⟨by first | decide | omega, by first | decide | omega⟩, ⟨by first | decide | omega, by first | decide | omega⟩, (by first | rfl | trivial | assumption | omega | (intros; first | rfl | assumption | omega | (exfalso; omega))), (by first | rfl | trivial | assumption | omega | (intros; first | rfl | assumption | omega | (exfalso; omega))), (by first | rfl | trivial | assumption | omega | (intros; first | rfl | assumption | omega | (exfalso; omega)))⟩) dX12_nextToken_204
                  · exact absurd c205 (by decide)
            · have b206 : fi_1.toInt < ln_m.toInt := hw_inle c178
              refine lv_aload_n hx hb dX12_nextToken_85 rfl (lv_at hl 0 rfl) ?_
              refine hw_get hx hb fg_45_11 hK vm rfl dX12_nextToken_86 ?_
              refine lv_aload_n hx hb dX12_nextToken_89 rfl (lv_at hl 0 rfl) ?_
              refine hw_get hx hb fg_129_11 hK vm rfl dX12_nextToken_90 ?_
              obtain ⟨f207, v208⟩ := hH.a55 (hw_RM_15 Rm)
              refine hw_iald hx hb hK v208 (hw_in (by omega) (by omega)) dX12_nextToken_93 ?_
              refine lv_topi (fun x210 e211 => ?_)
              refine hw_cR (va_runS (As := [.int x210]) (rest := []) ⟨hx, hb, hml, hown, hts⟩ (k_X12_isLetter l D G x210 _) (va_cwS 1 hts gX12_nextToken_X12_isLetter rfl rfl rfl (by decide +kernel) ⟨Nat.le_of_ble_eq_true rfl, Nat.le_of_ble_eq_true rfl⟩) (hw_pS hH hK hST hS (by decide) (fun _ h => Or.inl h) trivial) rfl rfl hl.1 rfl (lv_room (Nat.le_of_ble_eq_true rfl)) dX12_nextToken_94 ⟨Nat.le_of_ble_eq_true rfl, Nat.le_of_ble_eq_true rfl⟩) (fun v hp => ?_)
              rcases hp with rfl | rfl
              · refine lv_if_eq (tgt := 139) hx hb dX12_nextToken_97 (by decide) (fun c212 => ?_) (fun c212 => ?_)
                · exact absurd c212 (by decide)
                · have L100 : ∀ (n215 : Nat) (be_213 : Int32) (hm : (200 - be_213.toInt).toNat < n215) (g214 : 0 ≤ be_213.toInt ∧ be_213.toInt ≤ 200) (inv100_0 : fi_1.toInt ≤ be_213.toInt) (inv100_1 : be_213.toInt ≤ ln_m.toInt) (H : Heap) (locs : List Loc) (hH : hw_HT D G H) (vm : va_at D.1 vwCl (h0, .inr (11, hw_LM rm ud_m ky_m lo_m wk_m dk_m ln_m sm_m fi_1 be_213 rk_m rl_m rw_m cl_m dg_m)) H) (hS : va_S (hw_AW G [9] s.heap.size) s.heap H locs) (ls : Array Slot) (hl : lv_has ls 1 [(0, .ref h0)]), W p l e ({ frames := 2, cells := 0, slots := 0, locals := 45 } : Room) s m args below meth c H locs 0 0 QQ (F0 m 100 ls []) := by
                    intro n215
                    induction n215 with
                    | zero => intro be_213 hm; exact absurd hm (Nat.not_lt_zero _)
                    | succ n215 ih100 =>
                      intro be_213 hm g214 inv100_0 inv100_1 H locs hH vm hS ls hl
                      refine lv_aload_n hx hb dX12_nextToken_100 rfl (lv_at hl 0 rfl) ?_
                      refine hw_get hx hb fg_126_11 hK vm rfl dX12_nextToken_101 ?_
                      refine lv_aload_n hx hb dX12_nextToken_104 rfl (lv_at hl 0 rfl) ?_
                      refine hw_get hx hb fg_115_11 hK vm rfl dX12_nextToken_105 ?_
                      refine lv_icmp_ge (tgt := 204) hx hb dX12_nextToken_108 (by decide) (fun c216 => ?_) (fun c216 => ?_)
                      · have b217 : ln_m.toInt ≤ be_213.toInt := hw_ile c216
                        exact hw_vretM hx hb hr hlocks hQ hS (⟨fi_1, be_213, rfl, hH, vm, ⟨by first | decide | omega, by first | decide | omega⟩, ⟨by first | decide | omega, by first | decide | omega⟩, (by first | rfl | trivial | assumption | omega | (intros; first | rfl | assumption | omega | (exfalso; omega))), (by first | rfl | trivial | assumption | omega | (intros; first | rfl | assumption | omega | (exfalso; omega))), (by first | rfl | trivial | assumption | omega | (intros; first | rfl | assumption | omega | (exfalso; omega)))⟩) dX12_nextToken_204
                      · have b218 : be_213.toInt < ln_m.toInt := hw_inle c216
                        refine lv_aload_n hx hb dX12_nextToken_111 rfl (lv_at hl 0 rfl) ?_
                        refine hw_get hx hb fg_45_11 hK vm rfl dX12_nextToken_112 ?_
                        refine lv_aload_n hx hb dX12_nextToken_115 rfl (lv_at hl 0 rfl) ?_
                        refine hw_get hx hb fg_126_11 hK vm rfl dX12_nextToken_116 ?_
                        obtain ⟨f219, v220⟩ := hH.a55 (hw_RM_15 Rm)
                        refine hw_iald hx hb hK v220 (hw_in (by omega) (by omega)) dX12_nextToken_119 ?_
                        refine lv_topi (fun x222 e223 => ?_)
                        refine hw_cR (va_runS (As := [.int x222]) (rest := []) ⟨hx, hb, hml, hown, hts⟩ (k_X12_isLetter l D G x222 _) (va_cwS 1 hts gX12_nextToken_X12_isLetter rfl rfl rfl (by decide +kernel) ⟨Nat.le_of_ble_eq_true rfl, Nat.le_of_ble_eq_true rfl⟩) (hw_pS hH hK hST hS (by decide) (fun _ h => Or.inl h) trivial) rfl rfl hl.1 rfl (lv_room (Nat.le_of_ble_eq_true rfl)) dX12_nextToken_120 ⟨Nat.le_of_ble_eq_true rfl, Nat.le_of_ble_eq_true rfl⟩) (fun v hp => ?_)
                        rcases hp with rfl | rfl
                        · refine lv_if_eq (tgt := 204) hx hb dX12_nextToken_123 (by decide) (fun c224 => ?_) (fun c224 => ?_)
                          · exact absurd c224 (by decide)
                          · refine lv_aload_n hx hb dX12_nextToken_126 rfl (lv_at hl 0 rfl) ?_
                            refine lv_dup hx hb dX12_nextToken_127 rfl ?_
                            refine hw_get hx hb fg_126_11 hK vm rfl dX12_nextToken_128 ?_
                            refine lv_iconst (v := 1) hx hb dX12_nextToken_131 (by decide) ?_
                            refine lv_iadd hx hb dX12_nextToken_132 ?_
                            refine lv_topi (fun x225 e226 => ?_)
                            have t227 : x225.toInt = be_213.toInt + 1 := by rw [e226]; exact hw_add rfl rfl (by omega) (by omega)
                            refine hw_put (v := .int x225) (fs' := hw_LM rm ud_m ky_m lo_m wk_m dk_m ln_m sm_m fi_1 x225 rk_m rl_m rw_m cl_m dg_m) hx hb fp_126_11 hK hH vm (Nat.le_of_ble_eq_true rfl) rfl rfl rfl (fun _ => by rw [G0]; exact ⟨rm, ud_m, ky_m, lo_m, wk_m, dk_m, ln_m, sm_m, fi_1, x225, rk_m, rl_m, rw_m, cl_m, dg_m, rfl, Rm, ⟨by first | decide | omega, by first | decide | omega⟩, ⟨by first | decide | omega, by first | decide | omega⟩, ⟨by first | decide | omega, by first | decide | omega⟩, ⟨by first | decide | omega, by first | decide | omega⟩, ⟨by first | decide | omega, by first | decide | omega⟩, ⟨by first | decide | omega, by first | decide | omega⟩, ⟨by first | decide | omega, by first | decide | omega⟩, ⟨by first | decide | omega, by first | decide | omega⟩, ⟨by first | decide | omega, by first | decide | omega⟩, ⟨by first | decide | omega, by first | decide | omega⟩, ⟨by first | decide | omega, by first | decide | omega⟩, ⟨by first | decide | omega, by first | decide | omega⟩⟩) hS (hw_AWi G0 (by decide)) dX12_nextToken_133 (fun H locs hH vm oq hz hS => ?_)
                            refine lv_goto (tgt := 100) hx hb dX12_nextToken_136 (by decide) ?_
                            exact ih100 x225 (by first | omega | omega) ⟨by first | decide | omega, by first | decide | omega⟩ (by first | assumption | omega | decide | rfl | (intros; first | rfl | assumption | omega)) (by first | assumption | omega | decide | rfl | (intros; first | rfl | assumption | omega)) _ _ hH vm hS _ (lv_sub hl [0] rfl)
                        · refine lv_if_eq (tgt := 204) hx hb dX12_nextToken_123 (by decide) (fun c228 => ?_) (fun c228 => ?_)
                          · exact hw_vretM hx hb hr hlocks hQ hS (⟨fi_1, be_213, rfl, hH, vm, ⟨by first | decide | omega, by first | decide | omega⟩, ⟨by first | decide | omega, by first | decide | omega⟩, (by first | rfl | trivial | assumption | omega | (intros; first | rfl | assumption | omega | (exfalso; omega))), (by first | rfl | trivial | assumption | omega | (intros; first | rfl | assumption | omega | (exfalso; omega))), (by first | rfl | trivial | assumption | omega | (intros; first | rfl | assumption | omega | (exfalso; omega)))⟩) dX12_nextToken_204
                          · exact absurd c228 (by decide)
                  exact L100 _ fi_1 (Nat.lt_succ_self _) ⟨by first | decide | omega, by first | decide | omega⟩ (by first | assumption | omega | decide | rfl | (intros; first | rfl | assumption | omega)) (by first | assumption | omega | decide | rfl | (intros; first | rfl | assumption | omega)) _ _ hH vm hS _ (lv_sub hl [0] rfl)
              · refine lv_if_eq (tgt := 139) hx hb dX12_nextToken_97 (by decide) (fun c229 => ?_) (fun c229 => ?_)
                · refine lv_aload_n hx hb dX12_nextToken_139 rfl (lv_at hl 0 rfl) ?_
                  refine hw_get hx hb fg_129_11 hK vm rfl dX12_nextToken_140 ?_
                  refine lv_aload_n hx hb dX12_nextToken_143 rfl (lv_at hl 0 rfl) ?_
                  refine hw_get hx hb fg_115_11 hK vm rfl dX12_nextToken_144 ?_
                  refine lv_icmp_ge (tgt := 204) hx hb dX12_nextToken_147 (by decide) (fun c230 => ?_) (fun c230 => ?_)
                  · have b231 : ln_m.toInt ≤ fi_1.toInt := hw_ile c230
                    exact hw_vretM hx hb hr hlocks hQ hS (⟨fi_1, fi_1, rfl, hH, vm, ⟨by first | decide | omega, by first | decide | omega⟩, ⟨by first | decide | omega, by first | decide | omega⟩, (by first | rfl | trivial | assumption | omega | (intros; first | rfl | assumption | omega | (exfalso; omega))), (by first | rfl | trivial | assumption | omega | (intros; first | rfl | assumption | omega | (exfalso; omega))), (by first | rfl | trivial | assumption | omega | (intros; first | rfl | assumption | omega | (exfalso; omega)))⟩) dX12_nextToken_204
                  · have b232 : fi_1.toInt < ln_m.toInt := hw_inle c230
                    refine lv_aload_n hx hb dX12_nextToken_150 rfl (lv_at hl 0 rfl) ?_
                    refine hw_get hx hb fg_45_11 hK vm rfl dX12_nextToken_151 ?_
                    refine lv_aload_n hx hb dX12_nextToken_154 rfl (lv_at hl 0 rfl) ?_
                    refine hw_get hx hb fg_129_11 hK vm rfl dX12_nextToken_155 ?_
                    obtain ⟨f233, v234⟩ := hH.a55 (hw_RM_15 Rm)
                    refine hw_iald hx hb hK v234 (hw_in (by omega) (by omega)) dX12_nextToken_158 ?_
                    refine lv_topi (fun x236 e237 => ?_)
                    refine hw_cR (va_runS (As := [.int x236]) (rest := []) ⟨hx, hb, hml, hown, hts⟩ (k_X12_isDigit l D G x236 _) (va_cwS 1 hts gX12_nextToken_X12_isDigit rfl rfl rfl (by decide +kernel) ⟨Nat.le_of_ble_eq_true rfl, Nat.le_of_ble_eq_true rfl⟩) (hw_pS hH hK hST hS (by decide) (fun _ h => Or.inl h) trivial) rfl rfl hl.1 rfl (lv_room (Nat.le_of_ble_eq_true rfl)) dX12_nextToken_159 ⟨Nat.le_of_ble_eq_true rfl, Nat.le_of_ble_eq_true rfl⟩) (fun v hp => ?_)
                    rcases hp with rfl | rfl
                    · refine lv_if_eq (tgt := 204) hx hb dX12_nextToken_162 (by decide) (fun c238 => ?_) (fun c238 => ?_)
                      · exact absurd c238 (by decide)
                      · have L165 : ∀ (n241 : Nat) (be_239 : Int32) (hm : (200 - be_239.toInt).toNat < n241) (g240 : 0 ≤ be_239.toInt ∧ be_239.toInt ≤ 200) (inv165_0 : fi_1.toInt ≤ be_239.toInt) (inv165_1 : be_239.toInt ≤ ln_m.toInt) (H : Heap) (locs : List Loc) (hH : hw_HT D G H) (vm : va_at D.1 vwCl (h0, .inr (11, hw_LM rm ud_m ky_m lo_m wk_m dk_m ln_m sm_m fi_1 be_239 rk_m rl_m rw_m cl_m dg_m)) H) (hS : va_S (hw_AW G [9] s.heap.size) s.heap H locs) (ls : Array Slot) (hl : lv_has ls 1 [(0, .ref h0)]), W p l e ({ frames := 2, cells := 0, slots := 0, locals := 45 } : Room) s m args below meth c H locs 0 0 QQ (F0 m 165 ls []) := by
                          intro n241
                          induction n241 with
                          | zero => intro be_239 hm; exact absurd hm (Nat.not_lt_zero _)
                          | succ n241 ih165 =>
                            intro be_239 hm g240 inv165_0 inv165_1 H locs hH vm hS ls hl
                            refine lv_aload_n hx hb dX12_nextToken_165 rfl (lv_at hl 0 rfl) ?_
                            refine hw_get hx hb fg_126_11 hK vm rfl dX12_nextToken_166 ?_
                            refine lv_aload_n hx hb dX12_nextToken_169 rfl (lv_at hl 0 rfl) ?_
                            refine hw_get hx hb fg_115_11 hK vm rfl dX12_nextToken_170 ?_
                            refine lv_icmp_ge (tgt := 204) hx hb dX12_nextToken_173 (by decide) (fun c242 => ?_) (fun c242 => ?_)
                            · have b243 : ln_m.toInt ≤ be_239.toInt := hw_ile c242
                              exact hw_vretM hx hb hr hlocks hQ hS (⟨fi_1, be_239, rfl, hH, vm, ⟨by first | decide | omega, by first | decide | omega⟩, ⟨by first | decide | omega, by first | decide | omega⟩, (by first | rfl | trivial | assumption | omega | (intros; first | rfl | assumption | omega | (exfalso; omega))), (by first | rfl | trivial | assumption | omega | (intros; first | rfl | assumption | omega | (exfalso; omega))), (by first | rfl | trivial | assumption | omega | (intros; first | rfl | assumption | omega | (exfalso; omega)))⟩) dX12_nextToken_204
                            · have b244 : be_239.toInt < ln_m.toInt := hw_inle c242
                              refine lv_aload_n hx hb dX12_nextToken_176 rfl (lv_at hl 0 rfl) ?_
                              refine hw_get hx hb fg_45_11 hK vm rfl dX12_nextToken_177 ?_
                              refine lv_aload_n hx hb dX12_nextToken_180 rfl (lv_at hl 0 rfl) ?_
                              refine hw_get hx hb fg_126_11 hK vm rfl dX12_nextToken_181 ?_
                              obtain ⟨f245, v246⟩ := hH.a55 (hw_RM_15 Rm)
                              refine hw_iald hx hb hK v246 (hw_in (by omega) (by omega)) dX12_nextToken_184 ?_
                              refine lv_topi (fun x248 e249 => ?_)
                              refine hw_cR (va_runS (As := [.int x248]) (rest := []) ⟨hx, hb, hml, hown, hts⟩ (k_X12_isDigit l D G x248 _) (va_cwS 1 hts gX12_nextToken_X12_isDigit rfl rfl rfl (by decide +kernel) ⟨Nat.le_of_ble_eq_true rfl, Nat.le_of_ble_eq_true rfl⟩) (hw_pS hH hK hST hS (by decide) (fun _ h => Or.inl h) trivial) rfl rfl hl.1 rfl (lv_room (Nat.le_of_ble_eq_true rfl)) dX12_nextToken_185 ⟨Nat.le_of_ble_eq_true rfl, Nat.le_of_ble_eq_true rfl⟩) (fun v hp => ?_)
                              rcases hp with rfl | rfl
                              · refine lv_if_eq (tgt := 204) hx hb dX12_nextToken_188 (by decide) (fun c250 => ?_) (fun c250 => ?_)
                                · exact absurd c250 (by decide)
                                · refine lv_aload_n hx hb dX12_nextToken_191 rfl (lv_at hl 0 rfl) ?_
                                  refine lv_dup hx hb dX12_nextToken_192 rfl ?_
                                  refine hw_get hx hb fg_126_11 hK vm rfl dX12_nextToken_193 ?_
                                  refine lv_iconst (v := 1) hx hb dX12_nextToken_196 (by decide) ?_
                                  refine lv_iadd hx hb dX12_nextToken_197 ?_
                                  refine lv_topi (fun x251 e252 => ?_)
                                  have t253 : x251.toInt = be_239.toInt + 1 := by rw [e252]; exact hw_add rfl rfl (by omega) (by omega)
                                  refine hw_put (v := .int x251) (fs' := hw_LM rm ud_m ky_m lo_m wk_m dk_m ln_m sm_m fi_1 x251 rk_m rl_m rw_m cl_m dg_m) hx hb fp_126_11 hK hH vm (Nat.le_of_ble_eq_true rfl) rfl rfl rfl (fun _ => by rw [G0]; exact ⟨rm, ud_m, ky_m, lo_m, wk_m, dk_m, ln_m, sm_m, fi_1, x251, rk_m, rl_m, rw_m, cl_m, dg_m, rfl, Rm, ⟨by first | decide | omega, by first | decide | omega⟩, ⟨by first | decide | omega, by first | decide | omega⟩, ⟨by first | decide | omega, by first | decide | omega⟩, ⟨by first | decide | omega, by first | decide | omega⟩, ⟨by first | decide | omega, by first | decide | omega⟩, ⟨by first | decide | omega, by first | decide | omega⟩, ⟨by first | decide | omega, by first | decide | omega⟩, ⟨by first | decide | omega, by first | decide | omega⟩, ⟨by first | decide | omega, by first | decide | omega⟩, ⟨by first | decide | omega, by first | decide | omega⟩, ⟨by first | decide | omega, by first | decide | omega⟩, ⟨by first | decide | omega, by first | decide | omega⟩⟩) hS (hw_AWi G0 (by decide)) dX12_nextToken_198 (fun H locs hH vm oq hz hS => ?_)
                                  refine lv_goto (tgt := 165) hx hb dX12_nextToken_201 (by decide) ?_
                                  exact ih165 x251 (by first | omega | omega) ⟨by first | decide | omega, by first | decide | omega⟩ (by first | assumption | omega | decide | rfl | (intros; first | rfl | assumption | omega)) (by first | assumption | omega | decide | rfl | (intros; first | rfl | assumption | omega)) _ _ hH vm hS _ (lv_sub hl [0] rfl)
                              · refine lv_if_eq (tgt := 204) hx hb dX12_nextToken_188 (by decide) (fun c254 => ?_) (fun c254 => ?_)
                                · exact hw_vretM hx hb hr hlocks hQ hS (⟨fi_1, be_239, rfl, hH, vm, ⟨by first | decide | omega, by first | decide | omega⟩, ⟨by first | decide | omega, by first | decide | omega⟩, (by first | rfl | trivial | assumption | omega | (intros; first | rfl | assumption | omega | (exfalso; omega))), (by first | rfl | trivial | assumption | omega | (intros; first | rfl | assumption | omega | (exfalso; omega))), (by first | rfl | trivial | assumption | omega | (intros; first | rfl | assumption | omega | (exfalso; omega)))⟩) dX12_nextToken_204
                                · exact absurd c254 (by decide)
                        exact L165 _ fi_1 (Nat.lt_succ_self _) ⟨by first | decide | omega, by first | decide | omega⟩ (by first | assumption | omega | decide | rfl | (intros; first | rfl | assumption | omega)) (by first | assumption | omega | decide | rfl | (intros; first | rfl | assumption | omega)) _ _ hH vm hS _ (lv_sub hl [0] rfl)
                    · refine lv_if_eq (tgt := 204) hx hb dX12_nextToken_162 (by decide) (fun c255 => ?_) (fun c255 => ?_)
                      · exact hw_vretM hx hb hr hlocks hQ hS (⟨fi_1, fi_1, rfl, hH, vm, ⟨by first | decide | omega, by first | decide | omega⟩, ⟨by first | decide | omega, by first | decide | omega⟩, (by first | rfl | trivial | assumption | omega | (intros; first | rfl | assumption | omega | (exfalso; omega))), (by first | rfl | trivial | assumption | omega | (intros; first | rfl | assumption | omega | (exfalso; omega))), (by first | rfl | trivial | assumption | omega | (intros; first | rfl | assumption | omega | (exfalso; omega)))⟩) dX12_nextToken_204
                      · exact absurd c255 (by decide)
                · exact absurd c229 (by decide)
          · have b256 : fi_1.toInt < ln_m.toInt := hw_inle c176
            refine lv_aload_n hx hb dX12_nextToken_58 rfl (lv_at hl 0 rfl) ?_
            refine hw_get hx hb fg_129_11 hK vm rfl dX12_nextToken_59 ?_
            refine lv_iconst (v := 1) hx hb dX12_nextToken_62 (by decide) ?_
            refine lv_iadd hx hb dX12_nextToken_63 ?_
            refine lv_topi (fun x257 e258 => ?_)
            have t259 : x257.toInt = fi_1.toInt + 1 := by rw [e258]; exact hw_add rfl rfl (by omega) (by omega)
            refine lv_goto (tgt := 71) hx hb dX12_nextToken_64 (by decide) ?_
            refine hw_put (v := .int x257) (fs' := hw_LM rm ud_m ky_m lo_m wk_m dk_m ln_m sm_m fi_1 x257 rk_m rl_m rw_m cl_m dg_m) hx hb fp_126_11 hK hH vm (Nat.le_of_ble_eq_true rfl) rfl rfl rfl (fun _ => by rw [G0]; exact ⟨rm, ud_m, ky_m, lo_m, wk_m, dk_m, ln_m, sm_m, fi_1, x257, rk_m, rl_m, rw_m, cl_m, dg_m, rfl, Rm, ⟨by first | decide | omega, by first | decide | omega⟩, ⟨by first | decide | omega, by first | decide | omega⟩, ⟨by first | decide | omega, by first | decide | omega⟩, ⟨by first | decide | omega, by first | decide | omega⟩, ⟨by first | decide | omega, by first | decide | omega⟩, ⟨by first | decide | omega, by first | decide | omega⟩, ⟨by first | decide | omega, by first | decide | omega⟩, ⟨by first | decide | omega, by first | decide | omega⟩, ⟨by first | decide | omega, by first | decide | omega⟩, ⟨by first | decide | omega, by first | decide | omega⟩, ⟨by first | decide | omega, by first | decide | omega⟩, ⟨by first | decide | omega, by first | decide | omega⟩⟩) hS (hw_AWi G0 (by decide)) dX12_nextToken_71 (fun H locs hH vm oq hz hS => ?_)
            refine lv_aload_n hx hb dX12_nextToken_74 rfl (lv_at hl 0 rfl) ?_
            refine hw_get hx hb fg_129_11 hK vm rfl dX12_nextToken_75 ?_
            refine lv_aload_n hx hb dX12_nextToken_78 rfl (lv_at hl 0 rfl) ?_
            refine hw_get hx hb fg_115_11 hK vm rfl dX12_nextToken_79 ?_
            refine lv_icmp_ge (tgt := 139) hx hb dX12_nextToken_82 (by decide) (fun c260 => ?_) (fun c260 => ?_)
            · have b261 : ln_m.toInt ≤ fi_1.toInt := hw_ile c260
              refine lv_aload_n hx hb dX12_nextToken_139 rfl (lv_at hl 0 rfl) ?_
              refine hw_get hx hb fg_129_11 hK vm rfl dX12_nextToken_140 ?_
              refine lv_aload_n hx hb dX12_nextToken_143 rfl (lv_at hl 0 rfl) ?_
              refine hw_get hx hb fg_115_11 hK vm rfl dX12_nextToken_144 ?_
              refine lv_icmp_ge (tgt := 204) hx hb dX12_nextToken_147 (by decide) (fun c262 => ?_) (fun c262 => ?_)
              · have b263 : ln_m.toInt ≤ fi_1.toInt := hw_ile c262
                exact hw_vretM hx hb hr hlocks hQ hS (⟨fi_1, x257, rfl, hH, vm, ⟨by first | decide | omega, by first | decide | omega⟩, ⟨by first | decide | omega, by first | decide | omega⟩, (by first | rfl | trivial | assumption | omega | (intros; first | rfl | assumption | omega | (exfalso; omega))), (by first | rfl | trivial | assumption | omega | (intros; first | rfl | assumption | omega | (exfalso; omega))), (by first | rfl | trivial | assumption | omega | (intros; first | rfl | assumption | omega | (exfalso; omega)))⟩) dX12_nextToken_204
              · have b264 : fi_1.toInt < ln_m.toInt := hw_inle c262
                refine lv_aload_n hx hb dX12_nextToken_150 rfl (lv_at hl 0 rfl) ?_
                refine hw_get hx hb fg_45_11 hK vm rfl dX12_nextToken_151 ?_
                refine lv_aload_n hx hb dX12_nextToken_154 rfl (lv_at hl 0 rfl) ?_
                refine hw_get hx hb fg_129_11 hK vm rfl dX12_nextToken_155 ?_
                obtain ⟨f265, v266⟩ := hH.a55 (hw_RM_15 Rm)
                refine hw_iald hx hb hK v266 (hw_in (by omega) (by omega)) dX12_nextToken_158 ?_
                refine lv_topi (fun x268 e269 => ?_)
                refine hw_cR (va_runS (As := [.int x268]) (rest := []) ⟨hx, hb, hml, hown, hts⟩ (k_X12_isDigit l D G x268 _) (va_cwS 1 hts gX12_nextToken_X12_isDigit rfl rfl rfl (by decide +kernel) ⟨Nat.le_of_ble_eq_true rfl, Nat.le_of_ble_eq_true rfl⟩) (hw_pS hH hK hST hS (by decide) (fun _ h => Or.inl h) trivial) rfl rfl hl.1 rfl (lv_room (Nat.le_of_ble_eq_true rfl)) dX12_nextToken_159 ⟨Nat.le_of_ble_eq_true rfl, Nat.le_of_ble_eq_true rfl⟩) (fun v hp => ?_)
                rcases hp with rfl | rfl
                · refine lv_if_eq (tgt := 204) hx hb dX12_nextToken_162 (by decide) (fun c270 => ?_) (fun c270 => ?_)
                  · exact absurd c270 (by decide)
                  · have L165 : ∀ (n273 : Nat) (be_271 : Int32) (hm : (200 - be_271.toInt).toNat < n273) (g272 : 0 ≤ be_271.toInt ∧ be_271.toInt ≤ 200) (inv165_0 : fi_1.toInt ≤ be_271.toInt) (inv165_1 : be_271.toInt ≤ ln_m.toInt) (H : Heap) (locs : List Loc) (hH : hw_HT D G H) (vm : va_at D.1 vwCl (h0, .inr (11, hw_LM rm ud_m ky_m lo_m wk_m dk_m ln_m sm_m fi_1 be_271 rk_m rl_m rw_m cl_m dg_m)) H) (hS : va_S (hw_AW G [9] s.heap.size) s.heap H locs) (ls : Array Slot) (hl : lv_has ls 1 [(0, .ref h0)]), W p l e ({ frames := 2, cells := 0, slots := 0, locals := 45 } : Room) s m args below meth c H locs 0 0 QQ (F0 m 165 ls []) := by
                      intro n273
                      induction n273 with
                      | zero => intro be_271 hm; exact absurd hm (Nat.not_lt_zero _)
                      | succ n273 ih165 =>
                        intro be_271 hm g272 inv165_0 inv165_1 H locs hH vm hS ls hl
                        refine lv_aload_n hx hb dX12_nextToken_165 rfl (lv_at hl 0 rfl) ?_
                        refine hw_get hx hb fg_126_11 hK vm rfl dX12_nextToken_166 ?_
                        refine lv_aload_n hx hb dX12_nextToken_169 rfl (lv_at hl 0 rfl) ?_
                        refine hw_get hx hb fg_115_11 hK vm rfl dX12_nextToken_170 ?_
                        refine lv_icmp_ge (tgt := 204) hx hb dX12_nextToken_173 (by decide) (fun c274 => ?_) (fun c274 => ?_)
                        · have b275 : ln_m.toInt ≤ be_271.toInt := hw_ile c274
                          exact hw_vretM hx hb hr hlocks hQ hS (⟨fi_1, be_271, rfl, hH, vm, ⟨by first | decide | omega, by first | decide | omega⟩, ⟨by first | decide | omega, by first | decide | omega⟩, (by first | rfl | trivial | assumption | omega | (intros; first | rfl | assumption | omega | (exfalso; omega))), (by first | rfl | trivial | assumption | omega | (intros; first | rfl | assumption | omega | (exfalso; omega))), (by first | rfl | trivial | assumption | omega | (intros; first | rfl | assumption | omega | (exfalso; omega)))⟩) dX12_nextToken_204
                        · have b276 : be_271.toInt < ln_m.toInt := hw_inle c274
                          refine lv_aload_n hx hb dX12_nextToken_176 rfl (lv_at hl 0 rfl) ?_
                          refine hw_get hx hb fg_45_11 hK vm rfl dX12_nextToken_177 ?_
                          refine lv_aload_n hx hb dX12_nextToken_180 rfl (lv_at hl 0 rfl) ?_
                          refine hw_get hx hb fg_126_11 hK vm rfl dX12_nextToken_181 ?_
                          obtain ⟨f277, v278⟩ := hH.a55 (hw_RM_15 Rm)
                          refine hw_iald hx hb hK v278 (hw_in (by omega) (by omega)) dX12_nextToken_184 ?_
                          refine lv_topi (fun x280 e281 => ?_)
                          refine hw_cR (va_runS (As := [.int x280]) (rest := []) ⟨hx, hb, hml, hown, hts⟩ (k_X12_isDigit l D G x280 _) (va_cwS 1 hts gX12_nextToken_X12_isDigit rfl rfl rfl (by decide +kernel) ⟨Nat.le_of_ble_eq_true rfl, Nat.le_of_ble_eq_true rfl⟩) (hw_pS hH hK hST hS (by decide) (fun _ h => Or.inl h) trivial) rfl rfl hl.1 rfl (lv_room (Nat.le_of_ble_eq_true rfl)) dX12_nextToken_185 ⟨Nat.le_of_ble_eq_true rfl, Nat.le_of_ble_eq_true rfl⟩) (fun v hp => ?_)
                          rcases hp with rfl | rfl
                          · refine lv_if_eq (tgt := 204) hx hb dX12_nextToken_188 (by decide) (fun c282 => ?_) (fun c282 => ?_)
                            · exact absurd c282 (by decide)
                            · refine lv_aload_n hx hb dX12_nextToken_191 rfl (lv_at hl 0 rfl) ?_
                              refine lv_dup hx hb dX12_nextToken_192 rfl ?_
                              refine hw_get hx hb fg_126_11 hK vm rfl dX12_nextToken_193 ?_
                              refine lv_iconst (v := 1) hx hb dX12_nextToken_196 (by decide) ?_
                              refine lv_iadd hx hb dX12_nextToken_197 ?_
                              refine lv_topi (fun x283 e284 => ?_)
                              have t285 : x283.toInt = be_271.toInt + 1 := by rw [e284]; exact hw_add rfl rfl (by omega) (by omega)
                              refine hw_put (v := .int x283) (fs' := hw_LM rm ud_m ky_m lo_m wk_m dk_m ln_m sm_m fi_1 x283 rk_m rl_m rw_m cl_m dg_m) hx hb fp_126_11 hK hH vm (Nat.le_of_ble_eq_true rfl) rfl rfl rfl (fun _ => by rw [G0]; exact ⟨rm, ud_m, ky_m, lo_m, wk_m, dk_m, ln_m, sm_m, fi_1, x283, rk_m, rl_m, rw_m, cl_m, dg_m, rfl, Rm, ⟨by first | decide | omega, by first | decide | omega⟩, ⟨by first | decide | omega, by first | decide | omega⟩, ⟨by first | decide | omega, by first | decide | omega⟩, ⟨by first | decide | omega, by first | decide | omega⟩, ⟨by first | decide | omega, by first | decide | omega⟩, ⟨by first | decide | omega, by first | decide | omega⟩, ⟨by first | decide | omega, by first | decide | omega⟩, ⟨by first | decide | omega, by first | decide | omega⟩, ⟨by first | decide | omega, by first | decide | omega⟩, ⟨by first | decide | omega, by first | decide | omega⟩, ⟨by first | decide | omega, by first | decide | omega⟩, ⟨by first | decide | omega, by first | decide | omega⟩⟩) hS (hw_AWi G0 (by decide)) dX12_nextToken_198 (fun H locs hH vm oq hz hS => ?_)
                              refine lv_goto (tgt := 165) hx hb dX12_nextToken_201 (by decide) ?_
                              exact ih165 x283 (by first | omega | omega) ⟨by first | decide | omega, by first | decide | omega⟩ (by first | assumption | omega | decide | rfl | (intros; first | rfl | assumption | omega)) (by first | assumption | omega | decide | rfl | (intros; first | rfl | assumption | omega)) _ _ hH vm hS _ (lv_sub hl [0] rfl)
                          · refine lv_if_eq (tgt := 204) hx hb dX12_nextToken_188 (by decide) (fun c286 => ?_) (fun c286 => ?_)
                            · exact hw_vretM hx hb hr hlocks hQ hS (⟨fi_1, be_271, rfl, hH, vm, ⟨by first | decide | omega, by first | decide | omega⟩, ⟨by first | decide | omega, by first | decide | omega⟩, (by first | rfl | trivial | assumption | omega | (intros; first | rfl | assumption | omega | (exfalso; omega))), (by first | rfl | trivial | assumption | omega | (intros; first | rfl | assumption | omega | (exfalso; omega))), (by first | rfl | trivial | assumption | omega | (intros; first | rfl | assumption | omega | (exfalso; omega)))⟩) dX12_nextToken_204
                            · exact absurd c286 (by decide)
                    exact L165 _ x257 (Nat.lt_succ_self _) ⟨by first | decide | omega, by first | decide | omega⟩ (by first | assumption | omega | decide | rfl | (intros; first | rfl | assumption | omega)) (by first | assumption | omega | decide | rfl | (intros; first | rfl | assumption | omega)) _ _ hH vm hS _ (lv_sub hl [0] rfl)
                · refine lv_if_eq (tgt := 204) hx hb dX12_nextToken_162 (by decide) (fun c287 => ?_) (fun c287 => ?_)
                  · exact hw_vretM hx hb hr hlocks hQ hS (⟨fi_1, x257, rfl, hH, vm, ⟨by first | decide | omega, by first | decide | omega⟩, ⟨by first | decide | omega, by first | decide | omega⟩, (by first | rfl | trivial | assumption | omega | (intros; first | rfl | assumption | omega | (exfalso; omega))), (by first | rfl | trivial | assumption | omega | (intros; first | rfl | assumption | omega | (exfalso; omega))), (by first | rfl | trivial | assumption | omega | (intros; first | rfl | assumption | omega | (exfalso; omega)))⟩) dX12_nextToken_204
                  · exact absurd c287 (by decide)
            · have b288 : fi_1.toInt < ln_m.toInt := hw_inle c260
              refine lv_aload_n hx hb dX12_nextToken_85 rfl (lv_at hl 0 rfl) ?_
              refine hw_get hx hb fg_45_11 hK vm rfl dX12_nextToken_86 ?_
              refine lv_aload_n hx hb dX12_nextToken_89 rfl (lv_at hl 0 rfl) ?_
              refine hw_get hx hb fg_129_11 hK vm rfl dX12_nextToken_90 ?_
              obtain ⟨f289, v290⟩ := hH.a55 (hw_RM_15 Rm)
              refine hw_iald hx hb hK v290 (hw_in (by omega) (by omega)) dX12_nextToken_93 ?_
              refine lv_topi (fun x292 e293 => ?_)
              refine hw_cR (va_runS (As := [.int x292]) (rest := []) ⟨hx, hb, hml, hown, hts⟩ (k_X12_isLetter l D G x292 _) (va_cwS 1 hts gX12_nextToken_X12_isLetter rfl rfl rfl (by decide +kernel) ⟨Nat.le_of_ble_eq_true rfl, Nat.le_of_ble_eq_true rfl⟩) (hw_pS hH hK hST hS (by decide) (fun _ h => Or.inl h) trivial) rfl rfl hl.1 rfl (lv_room (Nat.le_of_ble_eq_true rfl)) dX12_nextToken_94 ⟨Nat.le_of_ble_eq_true rfl, Nat.le_of_ble_eq_true rfl⟩) (fun v hp => ?_)
              rcases hp with rfl | rfl
              · refine lv_if_eq (tgt := 139) hx hb dX12_nextToken_97 (by decide) (fun c294 => ?_) (fun c294 => ?_)
                · exact absurd c294 (by decide)
                · have L100 : ∀ (n297 : Nat) (be_295 : Int32) (hm : (200 - be_295.toInt).toNat < n297) (g296 : 0 ≤ be_295.toInt ∧ be_295.toInt ≤ 200) (inv100_0 : fi_1.toInt ≤ be_295.toInt) (inv100_1 : be_295.toInt ≤ ln_m.toInt) (H : Heap) (locs : List Loc) (hH : hw_HT D G H) (vm : va_at D.1 vwCl (h0, .inr (11, hw_LM rm ud_m ky_m lo_m wk_m dk_m ln_m sm_m fi_1 be_295 rk_m rl_m rw_m cl_m dg_m)) H) (hS : va_S (hw_AW G [9] s.heap.size) s.heap H locs) (ls : Array Slot) (hl : lv_has ls 1 [(0, .ref h0)]), W p l e ({ frames := 2, cells := 0, slots := 0, locals := 45 } : Room) s m args below meth c H locs 0 0 QQ (F0 m 100 ls []) := by
                    intro n297
                    induction n297 with
                    | zero => intro be_295 hm; exact absurd hm (Nat.not_lt_zero _)
                    | succ n297 ih100 =>
                      intro be_295 hm g296 inv100_0 inv100_1 H locs hH vm hS ls hl
                      refine lv_aload_n hx hb dX12_nextToken_100 rfl (lv_at hl 0 rfl) ?_
                      refine hw_get hx hb fg_126_11 hK vm rfl dX12_nextToken_101 ?_
                      refine lv_aload_n hx hb dX12_nextToken_104 rfl (lv_at hl 0 rfl) ?_
                      refine hw_get hx hb fg_115_11 hK vm rfl dX12_nextToken_105 ?_
                      refine lv_icmp_ge (tgt := 204) hx hb dX12_nextToken_108 (by decide) (fun c298 => ?_) (fun c298 => ?_)
                      · have b299 : ln_m.toInt ≤ be_295.toInt := hw_ile c298
                        exact hw_vretM hx hb hr hlocks hQ hS (⟨fi_1, be_295, rfl, hH, vm, ⟨by first | decide | omega, by first | decide | omega⟩, ⟨by first | decide | omega, by first | decide | omega⟩, (by first | rfl | trivial | assumption | omega | (intros; first | rfl | assumption | omega | (exfalso; omega))), (by first | rfl | trivial | assumption | omega | (intros; first | rfl | assumption | omega | (exfalso; omega))), (by first | rfl | trivial | assumption | omega | (intros; first | rfl | assumption | omega | (exfalso; omega)))⟩) dX12_nextToken_204
                      · have b300 : be_295.toInt < ln_m.toInt := hw_inle c298
                        refine lv_aload_n hx hb dX12_nextToken_111 rfl (lv_at hl 0 rfl) ?_
                        refine hw_get hx hb fg_45_11 hK vm rfl dX12_nextToken_112 ?_
                        refine lv_aload_n hx hb dX12_nextToken_115 rfl (lv_at hl 0 rfl) ?_
                        refine hw_get hx hb fg_126_11 hK vm rfl dX12_nextToken_116 ?_
                        obtain ⟨f301, v302⟩ := hH.a55 (hw_RM_15 Rm)
                        refine hw_iald hx hb hK v302 (hw_in (by omega) (by omega)) dX12_nextToken_119 ?_
                        refine lv_topi (fun x304 e305 => ?_)
                        refine hw_cR (va_runS (As := [.int x304]) (rest := []) ⟨hx, hb, hml, hown, hts⟩ (k_X12_isLetter l D G x304 _) (va_cwS 1 hts gX12_nextToken_X12_isLetter rfl rfl rfl (by decide +kernel) ⟨Nat.le_of_ble_eq_true rfl, Nat.le_of_ble_eq_true rfl⟩) (hw_pS hH hK hST hS (by decide) (fun _ h => Or.inl h) trivial) rfl rfl hl.1 rfl (lv_room (Nat.le_of_ble_eq_true rfl)) dX12_nextToken_120 ⟨Nat.le_of_ble_eq_true rfl, Nat.le_of_ble_eq_true rfl⟩) (fun v hp => ?_)
                        rcases hp with rfl | rfl
                        · refine lv_if_eq (tgt := 204) hx hb dX12_nextToken_123 (by decide) (fun c306 => ?_) (fun c306 => ?_)
                          · exact absurd c306 (by decide)
                          · refine lv_aload_n hx hb dX12_nextToken_126 rfl (lv_at hl 0 rfl) ?_
                            refine lv_dup hx hb dX12_nextToken_127 rfl ?_
                            refine hw_get hx hb fg_126_11 hK vm rfl dX12_nextToken_128 ?_
                            refine lv_iconst (v := 1) hx hb dX12_nextToken_131 (by decide) ?_
                            refine lv_iadd hx hb dX12_nextToken_132 ?_
                            refine lv_topi (fun x307 e308 => ?_)
                            have t309 : x307.toInt = be_295.toInt + 1 := by rw [e308]; exact hw_add rfl rfl (by omega) (by omega)
                            refine hw_put (v := .int x307) (fs' := hw_LM rm ud_m ky_m lo_m wk_m dk_m ln_m sm_m fi_1 x307 rk_m rl_m rw_m cl_m dg_m) hx hb fp_126_11 hK hH vm (Nat.le_of_ble_eq_true rfl) rfl rfl rfl (fun _ => by rw [G0]; exact ⟨rm, ud_m, ky_m, lo_m, wk_m, dk_m, ln_m, sm_m, fi_1, x307, rk_m, rl_m, rw_m, cl_m, dg_m, rfl, Rm, ⟨by first | decide | omega, by first | decide | omega⟩, ⟨by first | decide | omega, by first | decide | omega⟩, ⟨by first | decide | omega, by first | decide | omega⟩, ⟨by first | decide | omega, by first | decide | omega⟩, ⟨by first | decide | omega, by first | decide | omega⟩, ⟨by first | decide | omega, by first | decide | omega⟩, ⟨by first | decide | omega, by first | decide | omega⟩, ⟨by first | decide | omega, by first | decide | omega⟩, ⟨by first | decide | omega, by first | decide | omega⟩, ⟨by first | decide | omega, by first | decide | omega⟩, ⟨by first | decide | omega, by first | decide | omega⟩, ⟨by first | decide | omega, by first | decide | omega⟩⟩) hS (hw_AWi G0 (by decide)) dX12_nextToken_133 (fun H locs hH vm oq hz hS => ?_)
                            refine lv_goto (tgt := 100) hx hb dX12_nextToken_136 (by decide) ?_
                            exact ih100 x307 (by first | omega | omega) ⟨by first | decide | omega, by first | decide | omega⟩ (by first | assumption | omega | decide | rfl | (intros; first | rfl | assumption | omega)) (by first | assumption | omega | decide | rfl | (intros; first | rfl | assumption | omega)) _ _ hH vm hS _ (lv_sub hl [0] rfl)
                        · refine lv_if_eq (tgt := 204) hx hb dX12_nextToken_123 (by decide) (fun c310 => ?_) (fun c310 => ?_)
                          · exact hw_vretM hx hb hr hlocks hQ hS (⟨fi_1, be_295, rfl, hH, vm, ⟨by first | decide | omega, by first | decide | omega⟩, ⟨by first | decide | omega, by first | decide | omega⟩, (by first | rfl | trivial | assumption | omega | (intros; first | rfl | assumption | omega | (exfalso; omega))), (by first | rfl | trivial | assumption | omega | (intros; first | rfl | assumption | omega | (exfalso; omega))), (by first | rfl | trivial | assumption | omega | (intros; first | rfl | assumption | omega | (exfalso; omega)))⟩) dX12_nextToken_204
                          · exact absurd c310 (by decide)
                  exact L100 _ x257 (Nat.lt_succ_self _) ⟨by first | decide | omega, by first | decide | omega⟩ (by first | assumption | omega | decide | rfl | (intros; first | rfl | assumption | omega)) (by first | assumption | omega | decide | rfl | (intros; first | rfl | assumption | omega)) _ _ hH vm hS _ (lv_sub hl [0] rfl)
              · refine lv_if_eq (tgt := 139) hx hb dX12_nextToken_97 (by decide) (fun c311 => ?_) (fun c311 => ?_)
                · refine lv_aload_n hx hb dX12_nextToken_139 rfl (lv_at hl 0 rfl) ?_
                  refine hw_get hx hb fg_129_11 hK vm rfl dX12_nextToken_140 ?_
                  refine lv_aload_n hx hb dX12_nextToken_143 rfl (lv_at hl 0 rfl) ?_
                  refine hw_get hx hb fg_115_11 hK vm rfl dX12_nextToken_144 ?_
                  refine lv_icmp_ge (tgt := 204) hx hb dX12_nextToken_147 (by decide) (fun c312 => ?_) (fun c312 => ?_)
                  · have b313 : ln_m.toInt ≤ fi_1.toInt := hw_ile c312
                    exact hw_vretM hx hb hr hlocks hQ hS (⟨fi_1, x257, rfl, hH, vm, ⟨by first | decide | omega, by first | decide | omega⟩, ⟨by first | decide | omega, by first | decide | omega⟩, (by first | rfl | trivial | assumption | omega | (intros; first | rfl | assumption | omega | (exfalso; omega))), (by first | rfl | trivial | assumption | omega | (intros; first | rfl | assumption | omega | (exfalso; omega))), (by first | rfl | trivial | assumption | omega | (intros; first | rfl | assumption | omega | (exfalso; omega)))⟩) dX12_nextToken_204
                  · have b314 : fi_1.toInt < ln_m.toInt := hw_inle c312
                    refine lv_aload_n hx hb dX12_nextToken_150 rfl (lv_at hl 0 rfl) ?_
                    refine hw_get hx hb fg_45_11 hK vm rfl dX12_nextToken_151 ?_
                    refine lv_aload_n hx hb dX12_nextToken_154 rfl (lv_at hl 0 rfl) ?_
                    refine hw_get hx hb fg_129_11 hK vm rfl dX12_nextToken_155 ?_
                    obtain ⟨f315, v316⟩ := hH.a55 (hw_RM_15 Rm)
                    refine hw_iald hx hb hK v316 (hw_in (by omega) (by omega)) dX12_nextToken_158 ?_
                    refine lv_topi (fun x318 e319 => ?_)
                    refine hw_cR (va_runS (As := [.int x318]) (rest := []) ⟨hx, hb, hml, hown, hts⟩ (k_X12_isDigit l D G x318 _) (va_cwS 1 hts gX12_nextToken_X12_isDigit rfl rfl rfl (by decide +kernel) ⟨Nat.le_of_ble_eq_true rfl, Nat.le_of_ble_eq_true rfl⟩) (hw_pS hH hK hST hS (by decide) (fun _ h => Or.inl h) trivial) rfl rfl hl.1 rfl (lv_room (Nat.le_of_ble_eq_true rfl)) dX12_nextToken_159 ⟨Nat.le_of_ble_eq_true rfl, Nat.le_of_ble_eq_true rfl⟩) (fun v hp => ?_)
                    rcases hp with rfl | rfl
                    · refine lv_if_eq (tgt := 204) hx hb dX12_nextToken_162 (by decide) (fun c320 => ?_) (fun c320 => ?_)
                      · exact absurd c320 (by decide)
                      · have L165 : ∀ (n323 : Nat) (be_321 : Int32) (hm : (200 - be_321.toInt).toNat < n323) (g322 : 0 ≤ be_321.toInt ∧ be_321.toInt ≤ 200) (inv165_0 : fi_1.toInt ≤ be_321.toInt) (inv165_1 : be_321.toInt ≤ ln_m.toInt) (H : Heap) (locs : List Loc) (hH : hw_HT D G H) (vm : va_at D.1 vwCl (h0, .inr (11, hw_LM rm ud_m ky_m lo_m wk_m dk_m ln_m sm_m fi_1 be_321 rk_m rl_m rw_m cl_m dg_m)) H) (hS : va_S (hw_AW G [9] s.heap.size) s.heap H locs) (ls : Array Slot) (hl : lv_has ls 1 [(0, .ref h0)]), W p l e ({ frames := 2, cells := 0, slots := 0, locals := 45 } : Room) s m args below meth c H locs 0 0 QQ (F0 m 165 ls []) := by
                          intro n323
                          induction n323 with
                          | zero => intro be_321 hm; exact absurd hm (Nat.not_lt_zero _)
                          | succ n323 ih165 =>
                            intro be_321 hm g322 inv165_0 inv165_1 H locs hH vm hS ls hl
                            refine lv_aload_n hx hb dX12_nextToken_165 rfl (lv_at hl 0 rfl) ?_
                            refine hw_get hx hb fg_126_11 hK vm rfl dX12_nextToken_166 ?_
                            refine lv_aload_n hx hb dX12_nextToken_169 rfl (lv_at hl 0 rfl) ?_
                            refine hw_get hx hb fg_115_11 hK vm rfl dX12_nextToken_170 ?_
                            refine lv_icmp_ge (tgt := 204) hx hb dX12_nextToken_173 (by decide) (fun c324 => ?_) (fun c324 => ?_)
                            · have b325 : ln_m.toInt ≤ be_321.toInt := hw_ile c324
                              exact hw_vretM hx hb hr hlocks hQ hS (⟨fi_1, be_321, rfl, hH, vm, ⟨by first | decide | omega, by first | decide | omega⟩, ⟨by first | decide | omega, by first | decide | omega⟩, (by first | rfl | trivial | assumption | omega | (intros; first | rfl | assumption | omega | (exfalso; omega))), (by first | rfl | trivial | assumption | omega | (intros; first | rfl | assumption | omega | (exfalso; omega))), (by first | rfl | trivial | assumption | omega | (intros; first | rfl | assumption | omega | (exfalso; omega)))⟩) dX12_nextToken_204
                            · have b326 : be_321.toInt < ln_m.toInt := hw_inle c324
                              refine lv_aload_n hx hb dX12_nextToken_176 rfl (lv_at hl 0 rfl) ?_
                              refine hw_get hx hb fg_45_11 hK vm rfl dX12_nextToken_177 ?_
                              refine lv_aload_n hx hb dX12_nextToken_180 rfl (lv_at hl 0 rfl) ?_
                              refine hw_get hx hb fg_126_11 hK vm rfl dX12_nextToken_181 ?_
                              obtain ⟨f327, v328⟩ := hH.a55 (hw_RM_15 Rm)
                              refine hw_iald hx hb hK v328 (hw_in (by omega) (by omega)) dX12_nextToken_184 ?_
                              refine lv_topi (fun x330 e331 => ?_)
                              refine hw_cR (va_runS (As := [.int x330]) (rest := []) ⟨hx, hb, hml, hown, hts⟩ (k_X12_isDigit l D G x330 _) (va_cwS 1 hts gX12_nextToken_X12_isDigit rfl rfl rfl (by decide +kernel) ⟨Nat.le_of_ble_eq_true rfl, Nat.le_of_ble_eq_true rfl⟩) (hw_pS hH hK hST hS (by decide) (fun _ h => Or.inl h) trivial) rfl rfl hl.1 rfl (lv_room (Nat.le_of_ble_eq_true rfl)) dX12_nextToken_185 ⟨Nat.le_of_ble_eq_true rfl, Nat.le_of_ble_eq_true rfl⟩) (fun v hp => ?_)
                              rcases hp with rfl | rfl
                              · refine lv_if_eq (tgt := 204) hx hb dX12_nextToken_188 (by decide) (fun c332 => ?_) (fun c332 => ?_)
                                · exact absurd c332 (by decide)
                                · refine lv_aload_n hx hb dX12_nextToken_191 rfl (lv_at hl 0 rfl) ?_
                                  refine lv_dup hx hb dX12_nextToken_192 rfl ?_
                                  refine hw_get hx hb fg_126_11 hK vm rfl dX12_nextToken_193 ?_
                                  refine lv_iconst (v := 1) hx hb dX12_nextToken_196 (by decide) ?_
                                  refine lv_iadd hx hb dX12_nextToken_197 ?_
                                  refine lv_topi (fun x333 e334 => ?_)
                                  have t335 : x333.toInt = be_321.toInt + 1 := by rw [e334]; exact hw_add rfl rfl (by omega) (by omega)
                                  refine hw_put (v := .int x333) (fs' := hw_LM rm ud_m ky_m lo_m wk_m dk_m ln_m sm_m fi_1 x333 rk_m rl_m rw_m cl_m dg_m) hx hb fp_126_11 hK hH vm (Nat.le_of_ble_eq_true rfl) rfl rfl rfl (fun _ => by rw [G0]; exact ⟨rm, ud_m, ky_m, lo_m, wk_m, dk_m, ln_m, sm_m, fi_1, x333, rk_m, rl_m, rw_m, cl_m, dg_m, rfl, Rm, ⟨by first | decide | omega, by first | decide | omega⟩, ⟨by first | decide | omega, by first | decide | omega⟩, ⟨by first | decide | omega, by first | decide | omega⟩, ⟨by first | decide | omega, by first | decide | omega⟩, ⟨by first | decide | omega, by first | decide | omega⟩, ⟨by first | decide | omega, by first | decide | omega⟩, ⟨by first | decide | omega, by first | decide | omega⟩, ⟨by first | decide | omega, by first | decide | omega⟩, ⟨by first | decide | omega, by first | decide | omega⟩, ⟨by first | decide | omega, by first | decide | omega⟩, ⟨by first | decide | omega, by first | decide | omega⟩, ⟨by first | decide | omega, by first | decide | omega⟩⟩) hS (hw_AWi G0 (by decide)) dX12_nextToken_198 (fun H locs hH vm oq hz hS => ?_)
                                  refine lv_goto (tgt := 165) hx hb dX12_nextToken_201 (by decide) ?_
                                  exact ih165 x333 (by first | omega | omega) ⟨by first | decide | omega, by first | decide | omega⟩ (by first | assumption | omega | decide | rfl | (intros; first | rfl | assumption | omega)) (by first | assumption | omega | decide | rfl | (intros; first | rfl | assumption | omega)) _ _ hH vm hS _ (lv_sub hl [0] rfl)
                              · refine lv_if_eq (tgt := 204) hx hb dX12_nextToken_188 (by decide) (fun c336 => ?_) (fun c336 => ?_)
                                · exact hw_vretM hx hb hr hlocks hQ hS (⟨fi_1, be_321, rfl, hH, vm, ⟨by first | decide | omega, by first | decide | omega⟩, ⟨by first | decide | omega, by first | decide | omega⟩, (by first | rfl | trivial | assumption | omega | (intros; first | rfl | assumption | omega | (exfalso; omega))), (by first | rfl | trivial | assumption | omega | (intros; first | rfl | assumption | omega | (exfalso; omega))), (by first | rfl | trivial | assumption | omega | (intros; first | rfl | assumption | omega | (exfalso; omega)))⟩) dX12_nextToken_204
                                · exact absurd c336 (by decide)
                        exact L165 _ x257 (Nat.lt_succ_self _) ⟨by first | decide | omega, by first | decide | omega⟩ (by first | assumption | omega | decide | rfl | (intros; first | rfl | assumption | omega)) (by first | assumption | omega | decide | rfl | (intros; first | rfl | assumption | omega)) _ _ hH vm hS _ (lv_sub hl [0] rfl)
                    · refine lv_if_eq (tgt := 204) hx hb dX12_nextToken_162 (by decide) (fun c337 => ?_) (fun c337 => ?_)
                      · exact hw_vretM hx hb hr hlocks hQ hS (⟨fi_1, x257, rfl, hH, vm, ⟨by first | decide | omega, by first | decide | omega⟩, ⟨by first | decide | omega, by first | decide | omega⟩, (by first | rfl | trivial | assumption | omega | (intros; first | rfl | assumption | omega | (exfalso; omega))), (by first | rfl | trivial | assumption | omega | (intros; first | rfl | assumption | omega | (exfalso; omega))), (by first | rfl | trivial | assumption | omega | (intros; first | rfl | assumption | omega | (exfalso; omega)))⟩) dX12_nextToken_204
                      · exact absurd c337 (by decide)
                · exact absurd c311 (by decide)
        · have b338 : x172.toInt = 32 := hw_ieq c174
          refine lv_aload_n hx hb dX12_nextToken_33 rfl (lv_at hl 0 rfl) ?_
          refine lv_dup hx hb dX12_nextToken_34 rfl ?_
          refine hw_get hx hb fg_129_11 hK vm rfl dX12_nextToken_35 ?_
          refine lv_iconst (v := 1) hx hb dX12_nextToken_38 (by decide) ?_
          refine lv_iadd hx hb dX12_nextToken_39 ?_
          refine lv_topi (fun x339 e340 => ?_)
          have t341 : x339.toInt = fi_1.toInt + 1 := by rw [e340]; exact hw_add rfl rfl (by omega) (by omega)
          refine hw_put (v := .int x339) (fs' := hw_LM rm ud_m ky_m lo_m wk_m dk_m ln_m sm_m x339 be_m rk_m rl_m rw_m cl_m dg_m) hx hb fp_129_11 hK hH vm (Nat.le_of_ble_eq_true rfl) rfl rfl rfl (fun _ => by rw [G0]; exact ⟨rm, ud_m, ky_m, lo_m, wk_m, dk_m, ln_m, sm_m, x339, be_m, rk_m, rl_m, rw_m, cl_m, dg_m, rfl, Rm, ⟨by first | decide | omega, by first | decide | omega⟩, ⟨by first | decide | omega, by first | decide | omega⟩, ⟨by first | decide | omega, by first | decide | omega⟩, ⟨by first | decide | omega, by first | decide | omega⟩, ⟨by first | decide | omega, by first | decide | omega⟩, ⟨by first | decide | omega, by first | decide | omega⟩, ⟨by first | decide | omega, by first | decide | omega⟩, ⟨by first | decide | omega, by first | decide | omega⟩, ⟨by first | decide | omega, by first | decide | omega⟩, ⟨by first | decide | omega, by first | decide | omega⟩, ⟨by first | decide | omega, by first | decide | omega⟩, ⟨by first | decide | omega, by first | decide | omega⟩⟩) hS (hw_AWi G0 (by decide)) dX12_nextToken_40 (fun H locs hH vm oq hz hS => ?_)
          refine lv_goto (tgt := 8) hx hb dX12_nextToken_43 (by decide) ?_
          exact ih8 x339 (by first | omega | omega) ⟨by first | decide | omega, by first | decide | omega⟩ (by first | assumption | omega | decide | rfl | (intros; first | rfl | assumption | omega)) (by first | assumption | omega | decide | rfl | (intros; first | rfl | assumption | omega)) _ _ hH vm hS _ (lv_sub hl [0] rfl)
  exact L8 _ be_m (Nat.lt_succ_self _) ⟨by first | decide | omega, by first | decide | omega⟩ (by first | assumption | omega | decide | rfl | (intros; first | rfl | assumption | omega)) (by first | assumption | omega | decide | rfl | (intros; first | rfl | assumption | omega)) _ _ hH vm hS _ (lv_sub hl [0] rfl)

set_option maxHeartbeats 4000000 in
set_option maxRecDepth 100000 in
theorem k_X12_isWord68 (l : Launch) (D : hw_D) (G : Nat → Nat) (h0 : Nat) (p1 : Nat) (sz : Nat) (rm : Nat → Nat) (ud_m ky_m lo_m wk_m dk_m ln_m sm_m fi_m be_m rk_m rl_m rw_m cl_m dg_m : Int32) (G0 : G h0 = 9) (G1 : G p1 = 68) (Rm : hw_RM G rm) (gud_m : 0 ≤ ud_m.toInt ∧ ud_m.toInt ≤ 8) (gky_m : 0 ≤ ky_m.toInt ∧ ky_m.toInt ≤ 7) (glo_m : 0 ≤ lo_m.toInt ∧ lo_m.toInt ≤ 7) (gwk_m : 0 ≤ wk_m.toInt ∧ wk_m.toInt ≤ 3) (gln_m : 0 ≤ ln_m.toInt ∧ ln_m.toInt ≤ 200) (gsm_m : 0 ≤ sm_m.toInt ∧ sm_m.toInt ≤ 6) (gfi_m : 0 ≤ fi_m.toInt ∧ fi_m.toInt ≤ 200) (gbe_m : 0 ≤ be_m.toInt ∧ be_m.toInt ≤ 200) (grk_m : 0 ≤ rk_m.toInt ∧ rk_m.toInt ≤ 7) (grl_m : 0 ≤ rl_m.toInt ∧ rl_m.toInt ≤ 7) (grw_m : 0 ≤ rw_m.toInt ∧ rw_m.toInt ≤ 3) (gdg_m : 0 ≤ dg_m.toInt ∧ dg_m.toInt ≤ 1) : Met l yX12_isWord wsX12_isWord ({ frames := 0, cells := 0, slots := 0, locals := 0 } : Room) (hw_PC D G [.ref h0, .ref p1] sz (fun H => va_at D.1 vwCl (h0, .inr (11, hw_LM rm ud_m ky_m lo_m wk_m dk_m ln_m sm_m fi_m be_m rk_m rl_m rw_m cl_m dg_m)) H)) (hw_QR (fun v => (v = .int 0) ∨ (v = .int 1 ∧ be_m.toInt - fi_m.toInt = 5))) 0 0 (fun _ => False) := by
  refine hw_met (cc := cX12_isWord) (maxL := 4) (ret := (some .boolean)) (plainFor_of_name (by decide)) rfl (Nat.le_of_ble_eq_true rfl) ?_
  intro p e s m args below meth c QQ ls hsz hx hb hml hr hts hown hlocks hnm hH hK hST hF hQ hl
  subst hsz
  have hS : va_S (hw_AW G [] s.heap.size) s.heap s.heap [] := va_S.rf
  have vm := hF
  have hl : lv_has ls 4 [(0, .ref h0), (1, .ref p1)] := hl
  have u_11 : ∀ w ∈ u_ws RX12 TX12 45, w.before args s = true := fun w hw => hts w ((by decide +kernel : ∀ w ∈ u_ws RX12 TX12 45, w ∈ wsX12_isWord) w hw)
  have fg_126_11 : hw_FG s args m 126 11 21 := ⟨RX12, "WardWalkersModel", RX12, TX12, 45, u_11, hown, rfl, by decide, (hts (.fieldLink RX12 126 "WardWalkersModel" "behind" "I") (by decide +kernel)), (fun _ h9 => h9)⟩
  have fg_129_11 : hw_FG s args m 129 11 20 := ⟨RX12, "WardWalkersModel", RX12, TX12, 45, u_11, hown, rfl, by decide, (hts (.fieldLink RX12 129 "WardWalkersModel" "first" "I") (by decide +kernel)), (fun _ h9 => h9)⟩
  have fg_45_11 : hw_FG s args m 45 11 15 := ⟨RX12, "WardWalkersModel", RX12, TX12, 45, u_11, hown, rfl, by decide, (hts (.fieldLink RX12 45 "WardWalkersModel" "text" "[I") (by decide +kernel)), (fun _ h9 => h9)⟩
  refine lv_aload_n hx hb dX12_isWord_0 rfl (lv_at hl 0 rfl) ?_
  refine hw_get hx hb fg_126_11 hK vm rfl dX12_isWord_1 ?_
  refine lv_aload_n hx hb dX12_isWord_4 rfl (lv_at hl 0 rfl) ?_
  refine hw_get hx hb fg_129_11 hK vm rfl dX12_isWord_5 ?_
  refine lv_isub hx hb dX12_isWord_8 ?_
  refine lv_topi (fun x1 e2 => ?_)
  have t3 : x1.toInt = be_m.toInt - fi_m.toInt := by rw [e2]; exact hw_sub rfl rfl (by omega) (by omega)
  refine lv_aload_n hx hb dX12_isWord_9 rfl (lv_at hl 1 rfl) ?_
  obtain ⟨f4, v5⟩ := hH.a68 G1
  refine hw_alen (t := 0) (v := 5) hx hb hK v5 rfl rfl dX12_isWord_10 ?_
  refine lv_icmp_ne (tgt := 18) hx hb dX12_isWord_11 (by decide) (fun c7 => ?_) (fun c7 => ?_)
  · have b8 : x1.toInt ≠ 5 := hw_ine c7
    refine lv_iconst (v := 0) hx hb dX12_isWord_18 (by decide) ?_
    refine lv_istore_n (lv' := [(2, .int 0), (0, .ref h0), (1, .ref p1)]) hx hb dX12_isWord_19 rfl hl (by decide) rfl (fun ls hl => ?_)
    refine lv_iconst (v := 0) hx hb dX12_isWord_20 (by decide) ?_
    refine lv_istore_n (lv' := [(3, .int 0), (2, .int 0), (0, .ref h0), (1, .ref p1)]) hx hb dX12_isWord_21 rfl hl (by decide) rfl (fun ls hl => ?_)
    have L22 : ∀ (n13 : Nat) (y3_9 : Int32) (y2_10 : Int32) (hm : (5 - y3_9.toInt).toNat < n13) (g11 : 0 ≤ y2_10.toInt ∧ y2_10.toInt ≤ 1) (g12 : 0 ≤ y3_9.toInt ∧ y3_9.toInt ≤ 5) (inv22_0 : y2_10.toInt = 0 ∨ be_m.toInt - fi_m.toInt = 5) (ls : Array Slot) (hl : lv_has ls 4 [(3, .int y3_9), (2, .int y2_10), (0, .ref h0), (1, .ref p1)]), W p l e ({ frames := 0, cells := 0, slots := 0, locals := 0 } : Room) s m args below meth c s.heap [] 0 0 QQ (F0 m 22 ls []) := by
      intro n13
      induction n13 with
      | zero => intro y3_9 y2_10 hm; exact absurd hm (Nat.not_lt_zero _)
      | succ n13 ih22 =>
        intro y3_9 y2_10 hm g11 g12 inv22_0 ls hl
        refine lv_iload_n hx hb dX12_isWord_22 rfl (lv_at hl 0 rfl) ?_
        refine lv_aload_n hx hb dX12_isWord_23 rfl (lv_at hl 3 rfl) ?_
        obtain ⟨f14, v15⟩ := hH.a68 G1
        refine hw_alen (t := 0) (v := 5) hx hb hK v15 rfl rfl dX12_isWord_24 ?_
        refine lv_icmp_ge (tgt := 61) hx hb dX12_isWord_25 (by decide) (fun c17 => ?_) (fun c17 => ?_)
        · have b18 : 5 ≤ y3_9.toInt := hw_ile c17
          refine lv_iload_n hx hb dX12_isWord_61 rfl (lv_at hl 1 rfl) ?_
          rcases (hw_z01 (x := y2_10) (by omega)) with w19 | w19
          · have b20 : y2_10.toInt = 0 := hw_ieq w19
            rw [w19]
            exact hw_iretR (v := 0) hx hb hr hlocks hQ rfl (Or.inl rfl) dX12_isWord_62
          · have b21 : y2_10.toInt = 1 := hw_ieq w19
            rw [w19]
            exact hw_iretR (v := 1) hx hb hr hlocks hQ rfl (Or.inr (⟨rfl, (by first | rfl | trivial | assumption | omega | (intros; first | rfl | assumption | omega | (exfalso; omega)))⟩)) dX12_isWord_62
        · have b22 : y3_9.toInt < 5 := hw_inle c17
          refine lv_iload_n hx hb dX12_isWord_28 rfl (lv_at hl 1 rfl) ?_
          refine lv_if_eq (tgt := 61) hx hb dX12_isWord_29 (by decide) (fun c23 => ?_) (fun c23 => ?_)
          · have b24 : y2_10.toInt = 0 := hw_ieq c23
            refine lv_iload_n hx hb dX12_isWord_61 rfl (lv_at hl 1 rfl) ?_
            rcases (hw_z01 (x := y2_10) (by omega)) with w25 | w25
            · have b26 : y2_10.toInt = 0 := hw_ieq w25
              rw [w25]
              exact hw_iretR (v := 0) hx hb hr hlocks hQ rfl (Or.inl rfl) dX12_isWord_62
            · have b27 : y2_10.toInt = 1 := hw_ieq w25
              rw [w25]
              exact hw_iretR (v := 1) hx hb hr hlocks hQ rfl (Or.inr (⟨rfl, (by first | rfl | trivial | assumption | omega | (intros; first | rfl | assumption | omega | (exfalso; omega)))⟩)) dX12_isWord_62
          · have b28 : y2_10.toInt ≠ 0 := hw_ine c23
            refine lv_aload_n hx hb dX12_isWord_32 rfl (lv_at hl 2 rfl) ?_
            refine hw_get hx hb fg_45_11 hK vm rfl dX12_isWord_33 ?_
            refine lv_aload_n hx hb dX12_isWord_36 rfl (lv_at hl 2 rfl) ?_
            refine hw_get hx hb fg_129_11 hK vm rfl dX12_isWord_37 ?_
            refine lv_iload_n hx hb dX12_isWord_40 rfl (lv_at hl 0 rfl) ?_
            refine lv_iadd hx hb dX12_isWord_41 ?_
            refine lv_topi (fun x29 e30 => ?_)
            have t31 : x29.toInt = fi_m.toInt + y3_9.toInt := by rw [e30]; exact hw_add rfl rfl (by omega) (by omega)
            obtain ⟨f32, v33⟩ := hH.a55 (hw_RM_15 Rm)
            refine hw_iald hx hb hK v33 (hw_in (by omega) (by omega)) dX12_isWord_42 ?_
            refine lv_topi (fun x35 e36 => ?_)
            refine lv_aload_n hx hb dX12_isWord_43 rfl (lv_at hl 3 rfl) ?_
            refine lv_iload_n hx hb dX12_isWord_44 rfl (lv_at hl 0 rfl) ?_
            obtain ⟨f37, v38⟩ := hH.a68 G1
            refine hw_iald hx hb hK v38 (hw_in (by omega) (by omega)) dX12_isWord_45 ?_
            refine lv_topi (fun x40 e41 => ?_)
            refine lv_icmp_ne (tgt := 53) hx hb dX12_isWord_46 (by decide) (fun c42 => ?_) (fun c42 => ?_)
            · have b43 : x35.toInt ≠ x40.toInt := hw_ine c42
              refine lv_iconst (v := 0) hx hb dX12_isWord_53 (by decide) ?_
              refine lv_istore_n (lv' := [(2, .int 0), (3, .int y3_9), (0, .ref h0), (1, .ref p1)]) hx hb dX12_isWord_54 rfl hl (by decide) rfl (fun ls hl => ?_)
              obtain ⟨x44, e45⟩ : ∃ y : Int32, y = y3_9 + 1 := ⟨_, rfl⟩
              refine lv_iinc (v := x44) (lv' := [(3, .int x44), (2, .int 0), (0, .ref h0), (1, .ref p1)]) hx hb dX12_isWord_55 hl (k := 1) rfl (by rw [e45]; rfl) (by decide) rfl (fun ls hl => ?_)
              have t46 : x44.toInt = y3_9.toInt + 1 := by rw [e45]; exact hw_add rfl rfl (by omega) (by omega)
              refine lv_goto (tgt := 22) hx hb dX12_isWord_58 (by decide) ?_
              exact ih22 x44 0 (by first | omega | omega) ⟨by first | decide | omega, by first | decide | omega⟩ ⟨by first | decide | omega, by first | decide | omega⟩ (by first | (left; rfl) | omega) _ (lv_sub hl [0, 1, 2, 3] rfl)
            · have b47 : x35.toInt = x40.toInt := hw_ieq c42
              refine lv_iconst (v := 1) hx hb dX12_isWord_49 (by decide) ?_
              refine lv_goto (tgt := 54) hx hb dX12_isWord_50 (by decide) ?_
              refine lv_istore_n (lv' := [(2, .int 1), (3, .int y3_9), (0, .ref h0), (1, .ref p1)]) hx hb dX12_isWord_54 rfl hl (by decide) rfl (fun ls hl => ?_)
              obtain ⟨x48, e49⟩ : ∃ y : Int32, y = y3_9 + 1 := ⟨_, rfl⟩
              refine lv_iinc (v := x48) (lv' := [(3, .int x48), (2, .int 1), (0, .ref h0), (1, .ref p1)]) hx hb dX12_isWord_55 hl (k := 1) rfl (by rw [e49]; rfl) (by decide) rfl (fun ls hl => ?_)
              have t50 : x48.toInt = y3_9.toInt + 1 := by rw [e49]; exact hw_add rfl rfl (by omega) (by omega)
              refine lv_goto (tgt := 22) hx hb dX12_isWord_58 (by decide) ?_
              exact ih22 x48 1 (by first | omega | omega) ⟨by first | decide | omega, by first | decide | omega⟩ ⟨by first | decide | omega, by first | decide | omega⟩ (by first | (left; rfl) | omega) _ (lv_sub hl [0, 1, 2, 3] rfl)
    exact L22 _ 0 0 (Nat.lt_succ_self _) ⟨by first | decide | omega, by first | decide | omega⟩ ⟨by first | decide | omega, by first | decide | omega⟩ (by first | (left; rfl) | omega) _ (lv_sub hl [0, 1, 2, 3] rfl)
  · have b51 : x1.toInt = 5 := hw_ieq c7
    refine lv_iconst (v := 1) hx hb dX12_isWord_14 (by decide) ?_
    refine lv_goto (tgt := 19) hx hb dX12_isWord_15 (by decide) ?_
    refine lv_istore_n (lv' := [(2, .int 1), (0, .ref h0), (1, .ref p1)]) hx hb dX12_isWord_19 rfl hl (by decide) rfl (fun ls hl => ?_)
    refine lv_iconst (v := 0) hx hb dX12_isWord_20 (by decide) ?_
    refine lv_istore_n (lv' := [(3, .int 0), (2, .int 1), (0, .ref h0), (1, .ref p1)]) hx hb dX12_isWord_21 rfl hl (by decide) rfl (fun ls hl => ?_)
    have L22 : ∀ (n56 : Nat) (y3_52 : Int32) (y2_53 : Int32) (hm : (5 - y3_52.toInt).toNat < n56) (g54 : 0 ≤ y2_53.toInt ∧ y2_53.toInt ≤ 1) (g55 : 0 ≤ y3_52.toInt ∧ y3_52.toInt ≤ 5) (inv22_0 : y2_53.toInt = 0 ∨ be_m.toInt - fi_m.toInt = 5) (ls : Array Slot) (hl : lv_has ls 4 [(3, .int y3_52), (2, .int y2_53), (0, .ref h0), (1, .ref p1)]), W p l e ({ frames := 0, cells := 0, slots := 0, locals := 0 } : Room) s m args below meth c s.heap [] 0 0 QQ (F0 m 22 ls []) := by
      intro n56
      induction n56 with
      | zero => intro y3_52 y2_53 hm; exact absurd hm (Nat.not_lt_zero _)
      | succ n56 ih22 =>
        intro y3_52 y2_53 hm g54 g55 inv22_0 ls hl
        refine lv_iload_n hx hb dX12_isWord_22 rfl (lv_at hl 0 rfl) ?_
        refine lv_aload_n hx hb dX12_isWord_23 rfl (lv_at hl 3 rfl) ?_
        obtain ⟨f57, v58⟩ := hH.a68 G1
        refine hw_alen (t := 0) (v := 5) hx hb hK v58 rfl rfl dX12_isWord_24 ?_
        refine lv_icmp_ge (tgt := 61) hx hb dX12_isWord_25 (by decide) (fun c60 => ?_) (fun c60 => ?_)
        · have b61 : 5 ≤ y3_52.toInt := hw_ile c60
          refine lv_iload_n hx hb dX12_isWord_61 rfl (lv_at hl 1 rfl) ?_
          rcases (hw_z01 (x := y2_53) (by omega)) with w62 | w62
          · have b63 : y2_53.toInt = 0 := hw_ieq w62
            rw [w62]
            exact hw_iretR (v := 0) hx hb hr hlocks hQ rfl (Or.inl rfl) dX12_isWord_62
          · have b64 : y2_53.toInt = 1 := hw_ieq w62
            rw [w62]
            exact hw_iretR (v := 1) hx hb hr hlocks hQ rfl (Or.inr (⟨rfl, (by first | rfl | trivial | assumption | omega | (intros; first | rfl | assumption | omega | (exfalso; omega)))⟩)) dX12_isWord_62
        · have b65 : y3_52.toInt < 5 := hw_inle c60
          refine lv_iload_n hx hb dX12_isWord_28 rfl (lv_at hl 1 rfl) ?_
          refine lv_if_eq (tgt := 61) hx hb dX12_isWord_29 (by decide) (fun c66 => ?_) (fun c66 => ?_)
          · have b67 : y2_53.toInt = 0 := hw_ieq c66
            refine lv_iload_n hx hb dX12_isWord_61 rfl (lv_at hl 1 rfl) ?_
            rcases (hw_z01 (x := y2_53) (by omega)) with w68 | w68
            · have b69 : y2_53.toInt = 0 := hw_ieq w68
              rw [w68]
              exact hw_iretR (v := 0) hx hb hr hlocks hQ rfl (Or.inl rfl) dX12_isWord_62
            · have b70 : y2_53.toInt = 1 := hw_ieq w68
              rw [w68]
              exact hw_iretR (v := 1) hx hb hr hlocks hQ rfl (Or.inr (⟨rfl, (by first | rfl | trivial | assumption | omega | (intros; first | rfl | assumption | omega | (exfalso; omega)))⟩)) dX12_isWord_62
          · have b71 : y2_53.toInt ≠ 0 := hw_ine c66
            refine lv_aload_n hx hb dX12_isWord_32 rfl (lv_at hl 2 rfl) ?_
            refine hw_get hx hb fg_45_11 hK vm rfl dX12_isWord_33 ?_
            refine lv_aload_n hx hb dX12_isWord_36 rfl (lv_at hl 2 rfl) ?_
            refine hw_get hx hb fg_129_11 hK vm rfl dX12_isWord_37 ?_
            refine lv_iload_n hx hb dX12_isWord_40 rfl (lv_at hl 0 rfl) ?_
            refine lv_iadd hx hb dX12_isWord_41 ?_
            refine lv_topi (fun x72 e73 => ?_)
            have t74 : x72.toInt = fi_m.toInt + y3_52.toInt := by rw [e73]; exact hw_add rfl rfl (by omega) (by omega)
            obtain ⟨f75, v76⟩ := hH.a55 (hw_RM_15 Rm)
            refine hw_iald hx hb hK v76 (hw_in (by omega) (by omega)) dX12_isWord_42 ?_
            refine lv_topi (fun x78 e79 => ?_)
            refine lv_aload_n hx hb dX12_isWord_43 rfl (lv_at hl 3 rfl) ?_
            refine lv_iload_n hx hb dX12_isWord_44 rfl (lv_at hl 0 rfl) ?_
            obtain ⟨f80, v81⟩ := hH.a68 G1
            refine hw_iald hx hb hK v81 (hw_in (by omega) (by omega)) dX12_isWord_45 ?_
            refine lv_topi (fun x83 e84 => ?_)
            refine lv_icmp_ne (tgt := 53) hx hb dX12_isWord_46 (by decide) (fun c85 => ?_) (fun c85 => ?_)
            · have b86 : x78.toInt ≠ x83.toInt := hw_ine c85
              refine lv_iconst (v := 0) hx hb dX12_isWord_53 (by decide) ?_
              refine lv_istore_n (lv' := [(2, .int 0), (3, .int y3_52), (0, .ref h0), (1, .ref p1)]) hx hb dX12_isWord_54 rfl hl (by decide) rfl (fun ls hl => ?_)
              obtain ⟨x87, e88⟩ : ∃ y : Int32, y = y3_52 + 1 := ⟨_, rfl⟩
              refine lv_iinc (v := x87) (lv' := [(3, .int x87), (2, .int 0), (0, .ref h0), (1, .ref p1)]) hx hb dX12_isWord_55 hl (k := 1) rfl (by rw [e88]; rfl) (by decide) rfl (fun ls hl => ?_)
              have t89 : x87.toInt = y3_52.toInt + 1 := by rw [e88]; exact hw_add rfl rfl (by omega) (by omega)
              refine lv_goto (tgt := 22) hx hb dX12_isWord_58 (by decide) ?_
              exact ih22 x87 0 (by first | omega | omega) ⟨by first | decide | omega, by first | decide | omega⟩ ⟨by first | decide | omega, by first | decide | omega⟩ (by first | (left; rfl) | omega) _ (lv_sub hl [0, 1, 2, 3] rfl)
            · have b90 : x78.toInt = x83.toInt := hw_ieq c85
              refine lv_iconst (v := 1) hx hb dX12_isWord_49 (by decide) ?_
              refine lv_goto (tgt := 54) hx hb dX12_isWord_50 (by decide) ?_
              refine lv_istore_n (lv' := [(2, .int 1), (3, .int y3_52), (0, .ref h0), (1, .ref p1)]) hx hb dX12_isWord_54 rfl hl (by decide) rfl (fun ls hl => ?_)
              obtain ⟨x91, e92⟩ : ∃ y : Int32, y = y3_52 + 1 := ⟨_, rfl⟩
              refine lv_iinc (v := x91) (lv' := [(3, .int x91), (2, .int 1), (0, .ref h0), (1, .ref p1)]) hx hb dX12_isWord_55 hl (k := 1) rfl (by rw [e92]; rfl) (by decide) rfl (fun ls hl => ?_)
              have t93 : x91.toInt = y3_52.toInt + 1 := by rw [e92]; exact hw_add rfl rfl (by omega) (by omega)
              refine lv_goto (tgt := 22) hx hb dX12_isWord_58 (by decide) ?_
              exact ih22 x91 1 (by first | omega | omega) ⟨by first | decide | omega, by first | decide | omega⟩ ⟨by first | decide | omega, by first | decide | omega⟩ (by first | (left; rfl) | omega) _ (lv_sub hl [0, 1, 2, 3] rfl)
    exact L22 _ 0 1 (Nat.lt_succ_self _) ⟨by first | decide | omega, by first | decide | omega⟩ ⟨by first | decide | omega, by first | decide | omega⟩ (by first | (left; rfl) | omega) _ (lv_sub hl [0, 1, 2, 3] rfl)

set_option maxHeartbeats 4000000 in
set_option maxRecDepth 100000 in
theorem k_X12_isWord69 (l : Launch) (D : hw_D) (G : Nat → Nat) (h0 : Nat) (p1 : Nat) (sz : Nat) (rm : Nat → Nat) (ud_m ky_m lo_m wk_m dk_m ln_m sm_m fi_m be_m rk_m rl_m rw_m cl_m dg_m : Int32) (G0 : G h0 = 9) (G1 : G p1 = 69) (Rm : hw_RM G rm) (gud_m : 0 ≤ ud_m.toInt ∧ ud_m.toInt ≤ 8) (gky_m : 0 ≤ ky_m.toInt ∧ ky_m.toInt ≤ 7) (glo_m : 0 ≤ lo_m.toInt ∧ lo_m.toInt ≤ 7) (gwk_m : 0 ≤ wk_m.toInt ∧ wk_m.toInt ≤ 3) (gln_m : 0 ≤ ln_m.toInt ∧ ln_m.toInt ≤ 200) (gsm_m : 0 ≤ sm_m.toInt ∧ sm_m.toInt ≤ 6) (gfi_m : 0 ≤ fi_m.toInt ∧ fi_m.toInt ≤ 200) (gbe_m : 0 ≤ be_m.toInt ∧ be_m.toInt ≤ 200) (grk_m : 0 ≤ rk_m.toInt ∧ rk_m.toInt ≤ 7) (grl_m : 0 ≤ rl_m.toInt ∧ rl_m.toInt ≤ 7) (grw_m : 0 ≤ rw_m.toInt ∧ rw_m.toInt ≤ 3) (gdg_m : 0 ≤ dg_m.toInt ∧ dg_m.toInt ≤ 1) : Met l yX12_isWord wsX12_isWord ({ frames := 0, cells := 0, slots := 0, locals := 0 } : Room) (hw_PC D G [.ref h0, .ref p1] sz (fun H => va_at D.1 vwCl (h0, .inr (11, hw_LM rm ud_m ky_m lo_m wk_m dk_m ln_m sm_m fi_m be_m rk_m rl_m rw_m cl_m dg_m)) H)) (hw_QR (fun v => (v = .int 0) ∨ (v = .int 1 ∧ be_m.toInt - fi_m.toInt = 5))) 0 0 (fun _ => False) := by
  refine hw_met (cc := cX12_isWord) (maxL := 4) (ret := (some .boolean)) (plainFor_of_name (by decide)) rfl (Nat.le_of_ble_eq_true rfl) ?_
  intro p e s m args below meth c QQ ls hsz hx hb hml hr hts hown hlocks hnm hH hK hST hF hQ hl
  subst hsz
  have hS : va_S (hw_AW G [] s.heap.size) s.heap s.heap [] := va_S.rf
  have vm := hF
  have hl : lv_has ls 4 [(0, .ref h0), (1, .ref p1)] := hl
  have u_11 : ∀ w ∈ u_ws RX12 TX12 45, w.before args s = true := fun w hw => hts w ((by decide +kernel : ∀ w ∈ u_ws RX12 TX12 45, w ∈ wsX12_isWord) w hw)
  have fg_126_11 : hw_FG s args m 126 11 21 := ⟨RX12, "WardWalkersModel", RX12, TX12, 45, u_11, hown, rfl, by decide, (hts (.fieldLink RX12 126 "WardWalkersModel" "behind" "I") (by decide +kernel)), (fun _ h9 => h9)⟩
  have fg_129_11 : hw_FG s args m 129 11 20 := ⟨RX12, "WardWalkersModel", RX12, TX12, 45, u_11, hown, rfl, by decide, (hts (.fieldLink RX12 129 "WardWalkersModel" "first" "I") (by decide +kernel)), (fun _ h9 => h9)⟩
  have fg_45_11 : hw_FG s args m 45 11 15 := ⟨RX12, "WardWalkersModel", RX12, TX12, 45, u_11, hown, rfl, by decide, (hts (.fieldLink RX12 45 "WardWalkersModel" "text" "[I") (by decide +kernel)), (fun _ h9 => h9)⟩
  refine lv_aload_n hx hb dX12_isWord_0 rfl (lv_at hl 0 rfl) ?_
  refine hw_get hx hb fg_126_11 hK vm rfl dX12_isWord_1 ?_
  refine lv_aload_n hx hb dX12_isWord_4 rfl (lv_at hl 0 rfl) ?_
  refine hw_get hx hb fg_129_11 hK vm rfl dX12_isWord_5 ?_
  refine lv_isub hx hb dX12_isWord_8 ?_
  refine lv_topi (fun x1 e2 => ?_)
  have t3 : x1.toInt = be_m.toInt - fi_m.toInt := by rw [e2]; exact hw_sub rfl rfl (by omega) (by omega)
  refine lv_aload_n hx hb dX12_isWord_9 rfl (lv_at hl 1 rfl) ?_
  obtain ⟨f4, v5⟩ := hH.a69 G1
  refine hw_alen (t := 0) (v := 5) hx hb hK v5 rfl rfl dX12_isWord_10 ?_
  refine lv_icmp_ne (tgt := 18) hx hb dX12_isWord_11 (by decide) (fun c7 => ?_) (fun c7 => ?_)
  · have b8 : x1.toInt ≠ 5 := hw_ine c7
    refine lv_iconst (v := 0) hx hb dX12_isWord_18 (by decide) ?_
    refine lv_istore_n (lv' := [(2, .int 0), (0, .ref h0), (1, .ref p1)]) hx hb dX12_isWord_19 rfl hl (by decide) rfl (fun ls hl => ?_)
    refine lv_iconst (v := 0) hx hb dX12_isWord_20 (by decide) ?_
    refine lv_istore_n (lv' := [(3, .int 0), (2, .int 0), (0, .ref h0), (1, .ref p1)]) hx hb dX12_isWord_21 rfl hl (by decide) rfl (fun ls hl => ?_)
    have L22 : ∀ (n13 : Nat) (y3_9 : Int32) (y2_10 : Int32) (hm : (5 - y3_9.toInt).toNat < n13) (g11 : 0 ≤ y2_10.toInt ∧ y2_10.toInt ≤ 1) (g12 : 0 ≤ y3_9.toInt ∧ y3_9.toInt ≤ 5) (inv22_0 : y2_10.toInt = 0 ∨ be_m.toInt - fi_m.toInt = 5) (ls : Array Slot) (hl : lv_has ls 4 [(3, .int y3_9), (2, .int y2_10), (0, .ref h0), (1, .ref p1)]), W p l e ({ frames := 0, cells := 0, slots := 0, locals := 0 } : Room) s m args below meth c s.heap [] 0 0 QQ (F0 m 22 ls []) := by
      intro n13
      induction n13 with
      | zero => intro y3_9 y2_10 hm; exact absurd hm (Nat.not_lt_zero _)
      | succ n13 ih22 =>
        intro y3_9 y2_10 hm g11 g12 inv22_0 ls hl
        refine lv_iload_n hx hb dX12_isWord_22 rfl (lv_at hl 0 rfl) ?_
        refine lv_aload_n hx hb dX12_isWord_23 rfl (lv_at hl 3 rfl) ?_
        obtain ⟨f14, v15⟩ := hH.a69 G1
        refine hw_alen (t := 0) (v := 5) hx hb hK v15 rfl rfl dX12_isWord_24 ?_
        refine lv_icmp_ge (tgt := 61) hx hb dX12_isWord_25 (by decide) (fun c17 => ?_) (fun c17 => ?_)
        · have b18 : 5 ≤ y3_9.toInt := hw_ile c17
          refine lv_iload_n hx hb dX12_isWord_61 rfl (lv_at hl 1 rfl) ?_
          rcases (hw_z01 (x := y2_10) (by omega)) with w19 | w19
          · have b20 : y2_10.toInt = 0 := hw_ieq w19
            rw [w19]
            exact hw_iretR (v := 0) hx hb hr hlocks hQ rfl (Or.inl rfl) dX12_isWord_62
          · have b21 : y2_10.toInt = 1 := hw_ieq w19
            rw [w19]
            exact hw_iretR (v := 1) hx hb hr hlocks hQ rfl (Or.inr (⟨rfl, (by first | rfl | trivial | assumption | omega | (intros; first | rfl | assumption | omega | (exfalso; omega)))⟩)) dX12_isWord_62
        · have b22 : y3_9.toInt < 5 := hw_inle c17
          refine lv_iload_n hx hb dX12_isWord_28 rfl (lv_at hl 1 rfl) ?_
          refine lv_if_eq (tgt := 61) hx hb dX12_isWord_29 (by decide) (fun c23 => ?_) (fun c23 => ?_)
          · have b24 : y2_10.toInt = 0 := hw_ieq c23
            refine lv_iload_n hx hb dX12_isWord_61 rfl (lv_at hl 1 rfl) ?_
            rcases (hw_z01 (x := y2_10) (by omega)) with w25 | w25
            · have b26 : y2_10.toInt = 0 := hw_ieq w25
              rw [w25]
              exact hw_iretR (v := 0) hx hb hr hlocks hQ rfl (Or.inl rfl) dX12_isWord_62
            · have b27 : y2_10.toInt = 1 := hw_ieq w25
              rw [w25]
              exact hw_iretR (v := 1) hx hb hr hlocks hQ rfl (Or.inr (⟨rfl, (by first | rfl | trivial | assumption | omega | (intros; first | rfl | assumption | omega | (exfalso; omega)))⟩)) dX12_isWord_62
          · have b28 : y2_10.toInt ≠ 0 := hw_ine c23
            refine lv_aload_n hx hb dX12_isWord_32 rfl (lv_at hl 2 rfl) ?_
            refine hw_get hx hb fg_45_11 hK vm rfl dX12_isWord_33 ?_
            refine lv_aload_n hx hb dX12_isWord_36 rfl (lv_at hl 2 rfl) ?_
            refine hw_get hx hb fg_129_11 hK vm rfl dX12_isWord_37 ?_
            refine lv_iload_n hx hb dX12_isWord_40 rfl (lv_at hl 0 rfl) ?_
            refine lv_iadd hx hb dX12_isWord_41 ?_
            refine lv_topi (fun x29 e30 => ?_)
            have t31 : x29.toInt = fi_m.toInt + y3_9.toInt := by rw [e30]; exact hw_add rfl rfl (by omega) (by omega)
            obtain ⟨f32, v33⟩ := hH.a55 (hw_RM_15 Rm)
            refine hw_iald hx hb hK v33 (hw_in (by omega) (by omega)) dX12_isWord_42 ?_
            refine lv_topi (fun x35 e36 => ?_)
            refine lv_aload_n hx hb dX12_isWord_43 rfl (lv_at hl 3 rfl) ?_
            refine lv_iload_n hx hb dX12_isWord_44 rfl (lv_at hl 0 rfl) ?_
            obtain ⟨f37, v38⟩ := hH.a69 G1
            refine hw_iald hx hb hK v38 (hw_in (by omega) (by omega)) dX12_isWord_45 ?_
            refine lv_topi (fun x40 e41 => ?_)
            refine lv_icmp_ne (tgt := 53) hx hb dX12_isWord_46 (by decide) (fun c42 => ?_) (fun c42 => ?_)
            · have b43 : x35.toInt ≠ x40.toInt := hw_ine c42
              refine lv_iconst (v := 0) hx hb dX12_isWord_53 (by decide) ?_
              refine lv_istore_n (lv' := [(2, .int 0), (3, .int y3_9), (0, .ref h0), (1, .ref p1)]) hx hb dX12_isWord_54 rfl hl (by decide) rfl (fun ls hl => ?_)
              obtain ⟨x44, e45⟩ : ∃ y : Int32, y = y3_9 + 1 := ⟨_, rfl⟩
              refine lv_iinc (v := x44) (lv' := [(3, .int x44), (2, .int 0), (0, .ref h0), (1, .ref p1)]) hx hb dX12_isWord_55 hl (k := 1) rfl (by rw [e45]; rfl) (by decide) rfl (fun ls hl => ?_)
              have t46 : x44.toInt = y3_9.toInt + 1 := by rw [e45]; exact hw_add rfl rfl (by omega) (by omega)
              refine lv_goto (tgt := 22) hx hb dX12_isWord_58 (by decide) ?_
              exact ih22 x44 0 (by first | omega | omega) ⟨by first | decide | omega, by first | decide | omega⟩ ⟨by first | decide | omega, by first | decide | omega⟩ (by first | (left; rfl) | omega) _ (lv_sub hl [0, 1, 2, 3] rfl)
            · have b47 : x35.toInt = x40.toInt := hw_ieq c42
              refine lv_iconst (v := 1) hx hb dX12_isWord_49 (by decide) ?_
              refine lv_goto (tgt := 54) hx hb dX12_isWord_50 (by decide) ?_
              refine lv_istore_n (lv' := [(2, .int 1), (3, .int y3_9), (0, .ref h0), (1, .ref p1)]) hx hb dX12_isWord_54 rfl hl (by decide) rfl (fun ls hl => ?_)
              obtain ⟨x48, e49⟩ : ∃ y : Int32, y = y3_9 + 1 := ⟨_, rfl⟩
              refine lv_iinc (v := x48) (lv' := [(3, .int x48), (2, .int 1), (0, .ref h0), (1, .ref p1)]) hx hb dX12_isWord_55 hl (k := 1) rfl (by rw [e49]; rfl) (by decide) rfl (fun ls hl => ?_)
              have t50 : x48.toInt = y3_9.toInt + 1 := by rw [e49]; exact hw_add rfl rfl (by omega) (by omega)
              refine lv_goto (tgt := 22) hx hb dX12_isWord_58 (by decide) ?_
              exact ih22 x48 1 (by first | omega | omega) ⟨by first | decide | omega, by first | decide | omega⟩ ⟨by first | decide | omega, by first | decide | omega⟩ (by first | (left; rfl) | omega) _ (lv_sub hl [0, 1, 2, 3] rfl)
    exact L22 _ 0 0 (Nat.lt_succ_self _) ⟨by first | decide | omega, by first | decide | omega⟩ ⟨by first | decide | omega, by first | decide | omega⟩ (by first | (left; rfl) | omega) _ (lv_sub hl [0, 1, 2, 3] rfl)
  · have b51 : x1.toInt = 5 := hw_ieq c7
    refine lv_iconst (v := 1) hx hb dX12_isWord_14 (by decide) ?_
    refine lv_goto (tgt := 19) hx hb dX12_isWord_15 (by decide) ?_
    refine lv_istore_n (lv' := [(2, .int 1), (0, .ref h0), (1, .ref p1)]) hx hb dX12_isWord_19 rfl hl (by decide) rfl (fun ls hl => ?_)
    refine lv_iconst (v := 0) hx hb dX12_isWord_20 (by decide) ?_
    refine lv_istore_n (lv' := [(3, .int 0), (2, .int 1), (0, .ref h0), (1, .ref p1)]) hx hb dX12_isWord_21 rfl hl (by decide) rfl (fun ls hl => ?_)
    have L22 : ∀ (n56 : Nat) (y3_52 : Int32) (y2_53 : Int32) (hm : (5 - y3_52.toInt).toNat < n56) (g54 : 0 ≤ y2_53.toInt ∧ y2_53.toInt ≤ 1) (g55 : 0 ≤ y3_52.toInt ∧ y3_52.toInt ≤ 5) (inv22_0 : y2_53.toInt = 0 ∨ be_m.toInt - fi_m.toInt = 5) (ls : Array Slot) (hl : lv_has ls 4 [(3, .int y3_52), (2, .int y2_53), (0, .ref h0), (1, .ref p1)]), W p l e ({ frames := 0, cells := 0, slots := 0, locals := 0 } : Room) s m args below meth c s.heap [] 0 0 QQ (F0 m 22 ls []) := by
      intro n56
      induction n56 with
      | zero => intro y3_52 y2_53 hm; exact absurd hm (Nat.not_lt_zero _)
      | succ n56 ih22 =>
        intro y3_52 y2_53 hm g54 g55 inv22_0 ls hl
        refine lv_iload_n hx hb dX12_isWord_22 rfl (lv_at hl 0 rfl) ?_
        refine lv_aload_n hx hb dX12_isWord_23 rfl (lv_at hl 3 rfl) ?_
        obtain ⟨f57, v58⟩ := hH.a69 G1
        refine hw_alen (t := 0) (v := 5) hx hb hK v58 rfl rfl dX12_isWord_24 ?_
        refine lv_icmp_ge (tgt := 61) hx hb dX12_isWord_25 (by decide) (fun c60 => ?_) (fun c60 => ?_)
        · have b61 : 5 ≤ y3_52.toInt := hw_ile c60
          refine lv_iload_n hx hb dX12_isWord_61 rfl (lv_at hl 1 rfl) ?_
          rcases (hw_z01 (x := y2_53) (by omega)) with w62 | w62
          · have b63 : y2_53.toInt = 0 := hw_ieq w62
            rw [w62]
            exact hw_iretR (v := 0) hx hb hr hlocks hQ rfl (Or.inl rfl) dX12_isWord_62
          · have b64 : y2_53.toInt = 1 := hw_ieq w62
            rw [w62]
            exact hw_iretR (v := 1) hx hb hr hlocks hQ rfl (Or.inr (⟨rfl, (by first | rfl | trivial | assumption | omega | (intros; first | rfl | assumption | omega | (exfalso; omega)))⟩)) dX12_isWord_62
        · have b65 : y3_52.toInt < 5 := hw_inle c60
          refine lv_iload_n hx hb dX12_isWord_28 rfl (lv_at hl 1 rfl) ?_
          refine lv_if_eq (tgt := 61) hx hb dX12_isWord_29 (by decide) (fun c66 => ?_) (fun c66 => ?_)
          · have b67 : y2_53.toInt = 0 := hw_ieq c66
            refine lv_iload_n hx hb dX12_isWord_61 rfl (lv_at hl 1 rfl) ?_
            rcases (hw_z01 (x := y2_53) (by omega)) with w68 | w68
            · have b69 : y2_53.toInt = 0 := hw_ieq w68
              rw [w68]
              exact hw_iretR (v := 0) hx hb hr hlocks hQ rfl (Or.inl rfl) dX12_isWord_62
            · have b70 : y2_53.toInt = 1 := hw_ieq w68
              rw [w68]
              exact hw_iretR (v := 1) hx hb hr hlocks hQ rfl (Or.inr (⟨rfl, (by first | rfl | trivial | assumption | omega | (intros; first | rfl | assumption | omega | (exfalso; omega)))⟩)) dX12_isWord_62
          · have b71 : y2_53.toInt ≠ 0 := hw_ine c66
            refine lv_aload_n hx hb dX12_isWord_32 rfl (lv_at hl 2 rfl) ?_
            refine hw_get hx hb fg_45_11 hK vm rfl dX12_isWord_33 ?_
            refine lv_aload_n hx hb dX12_isWord_36 rfl (lv_at hl 2 rfl) ?_
            refine hw_get hx hb fg_129_11 hK vm rfl dX12_isWord_37 ?_
            refine lv_iload_n hx hb dX12_isWord_40 rfl (lv_at hl 0 rfl) ?_
            refine lv_iadd hx hb dX12_isWord_41 ?_
            refine lv_topi (fun x72 e73 => ?_)
            have t74 : x72.toInt = fi_m.toInt + y3_52.toInt := by rw [e73]; exact hw_add rfl rfl (by omega) (by omega)
            obtain ⟨f75, v76⟩ := hH.a55 (hw_RM_15 Rm)
            refine hw_iald hx hb hK v76 (hw_in (by omega) (by omega)) dX12_isWord_42 ?_
            refine lv_topi (fun x78 e79 => ?_)
            refine lv_aload_n hx hb dX12_isWord_43 rfl (lv_at hl 3 rfl) ?_
            refine lv_iload_n hx hb dX12_isWord_44 rfl (lv_at hl 0 rfl) ?_
            obtain ⟨f80, v81⟩ := hH.a69 G1
            refine hw_iald hx hb hK v81 (hw_in (by omega) (by omega)) dX12_isWord_45 ?_
            refine lv_topi (fun x83 e84 => ?_)
            refine lv_icmp_ne (tgt := 53) hx hb dX12_isWord_46 (by decide) (fun c85 => ?_) (fun c85 => ?_)
            · have b86 : x78.toInt ≠ x83.toInt := hw_ine c85
              refine lv_iconst (v := 0) hx hb dX12_isWord_53 (by decide) ?_
              refine lv_istore_n (lv' := [(2, .int 0), (3, .int y3_52), (0, .ref h0), (1, .ref p1)]) hx hb dX12_isWord_54 rfl hl (by decide) rfl (fun ls hl => ?_)
              obtain ⟨x87, e88⟩ : ∃ y : Int32, y = y3_52 + 1 := ⟨_, rfl⟩
              refine lv_iinc (v := x87) (lv' := [(3, .int x87), (2, .int 0), (0, .ref h0), (1, .ref p1)]) hx hb dX12_isWord_55 hl (k := 1) rfl (by rw [e88]; rfl) (by decide) rfl (fun ls hl => ?_)
              have t89 : x87.toInt = y3_52.toInt + 1 := by rw [e88]; exact hw_add rfl rfl (by omega) (by omega)
              refine lv_goto (tgt := 22) hx hb dX12_isWord_58 (by decide) ?_
              exact ih22 x87 0 (by first | omega | omega) ⟨by first | decide | omega, by first | decide | omega⟩ ⟨by first | decide | omega, by first | decide | omega⟩ (by first | (left; rfl) | omega) _ (lv_sub hl [0, 1, 2, 3] rfl)
            · have b90 : x78.toInt = x83.toInt := hw_ieq c85
              refine lv_iconst (v := 1) hx hb dX12_isWord_49 (by decide) ?_
              refine lv_goto (tgt := 54) hx hb dX12_isWord_50 (by decide) ?_
              refine lv_istore_n (lv' := [(2, .int 1), (3, .int y3_52), (0, .ref h0), (1, .ref p1)]) hx hb dX12_isWord_54 rfl hl (by decide) rfl (fun ls hl => ?_)
              obtain ⟨x91, e92⟩ : ∃ y : Int32, y = y3_52 + 1 := ⟨_, rfl⟩
              refine lv_iinc (v := x91) (lv' := [(3, .int x91), (2, .int 1), (0, .ref h0), (1, .ref p1)]) hx hb dX12_isWord_55 hl (k := 1) rfl (by rw [e92]; rfl) (by decide) rfl (fun ls hl => ?_)
              have t93 : x91.toInt = y3_52.toInt + 1 := by rw [e92]; exact hw_add rfl rfl (by omega) (by omega)
              refine lv_goto (tgt := 22) hx hb dX12_isWord_58 (by decide) ?_
              exact ih22 x91 1 (by first | omega | omega) ⟨by first | decide | omega, by first | decide | omega⟩ ⟨by first | decide | omega, by first | decide | omega⟩ (by first | (left; rfl) | omega) _ (lv_sub hl [0, 1, 2, 3] rfl)
    exact L22 _ 0 1 (Nat.lt_succ_self _) ⟨by first | decide | omega, by first | decide | omega⟩ ⟨by first | decide | omega, by first | decide | omega⟩ (by first | (left; rfl) | omega) _ (lv_sub hl [0, 1, 2, 3] rfl)

set_option maxHeartbeats 4000000 in
set_option maxRecDepth 100000 in
theorem k_X12_isWord70 (l : Launch) (D : hw_D) (G : Nat → Nat) (h0 : Nat) (p1 : Nat) (sz : Nat) (rm : Nat → Nat) (ud_m ky_m lo_m wk_m dk_m ln_m sm_m fi_m be_m rk_m rl_m rw_m cl_m dg_m : Int32) (G0 : G h0 = 9) (G1 : G p1 = 70) (Rm : hw_RM G rm) (gud_m : 0 ≤ ud_m.toInt ∧ ud_m.toInt ≤ 8) (gky_m : 0 ≤ ky_m.toInt ∧ ky_m.toInt ≤ 7) (glo_m : 0 ≤ lo_m.toInt ∧ lo_m.toInt ≤ 7) (gwk_m : 0 ≤ wk_m.toInt ∧ wk_m.toInt ≤ 3) (gln_m : 0 ≤ ln_m.toInt ∧ ln_m.toInt ≤ 200) (gsm_m : 0 ≤ sm_m.toInt ∧ sm_m.toInt ≤ 6) (gfi_m : 0 ≤ fi_m.toInt ∧ fi_m.toInt ≤ 200) (gbe_m : 0 ≤ be_m.toInt ∧ be_m.toInt ≤ 200) (grk_m : 0 ≤ rk_m.toInt ∧ rk_m.toInt ≤ 7) (grl_m : 0 ≤ rl_m.toInt ∧ rl_m.toInt ≤ 7) (grw_m : 0 ≤ rw_m.toInt ∧ rw_m.toInt ≤ 3) (gdg_m : 0 ≤ dg_m.toInt ∧ dg_m.toInt ≤ 1) : Met l yX12_isWord wsX12_isWord ({ frames := 0, cells := 0, slots := 0, locals := 0 } : Room) (hw_PC D G [.ref h0, .ref p1] sz (fun H => va_at D.1 vwCl (h0, .inr (11, hw_LM rm ud_m ky_m lo_m wk_m dk_m ln_m sm_m fi_m be_m rk_m rl_m rw_m cl_m dg_m)) H)) (hw_QR (fun v => (v = .int 0) ∨ (v = .int 1 ∧ be_m.toInt - fi_m.toInt = 6))) 0 0 (fun _ => False) := by
  refine hw_met (cc := cX12_isWord) (maxL := 4) (ret := (some .boolean)) (plainFor_of_name (by decide)) rfl (Nat.le_of_ble_eq_true rfl) ?_
  intro p e s m args below meth c QQ ls hsz hx hb hml hr hts hown hlocks hnm hH hK hST hF hQ hl
  subst hsz
  have hS : va_S (hw_AW G [] s.heap.size) s.heap s.heap [] := va_S.rf
  have vm := hF
  have hl : lv_has ls 4 [(0, .ref h0), (1, .ref p1)] := hl
  have u_11 : ∀ w ∈ u_ws RX12 TX12 45, w.before args s = true := fun w hw => hts w ((by decide +kernel : ∀ w ∈ u_ws RX12 TX12 45, w ∈ wsX12_isWord) w hw)
  have fg_126_11 : hw_FG s args m 126 11 21 := ⟨RX12, "WardWalkersModel", RX12, TX12, 45, u_11, hown, rfl, by decide, (hts (.fieldLink RX12 126 "WardWalkersModel" "behind" "I") (by decide +kernel)), (fun _ h9 => h9)⟩
  have fg_129_11 : hw_FG s args m 129 11 20 := ⟨RX12, "WardWalkersModel", RX12, TX12, 45, u_11, hown, rfl, by decide, (hts (.fieldLink RX12 129 "WardWalkersModel" "first" "I") (by decide +kernel)), (fun _ h9 => h9)⟩
  have fg_45_11 : hw_FG s args m 45 11 15 := ⟨RX12, "WardWalkersModel", RX12, TX12, 45, u_11, hown, rfl, by decide, (hts (.fieldLink RX12 45 "WardWalkersModel" "text" "[I") (by decide +kernel)), (fun _ h9 => h9)⟩
  refine lv_aload_n hx hb dX12_isWord_0 rfl (lv_at hl 0 rfl) ?_
  refine hw_get hx hb fg_126_11 hK vm rfl dX12_isWord_1 ?_
  refine lv_aload_n hx hb dX12_isWord_4 rfl (lv_at hl 0 rfl) ?_
  refine hw_get hx hb fg_129_11 hK vm rfl dX12_isWord_5 ?_
  refine lv_isub hx hb dX12_isWord_8 ?_
  refine lv_topi (fun x1 e2 => ?_)
  have t3 : x1.toInt = be_m.toInt - fi_m.toInt := by rw [e2]; exact hw_sub rfl rfl (by omega) (by omega)
  refine lv_aload_n hx hb dX12_isWord_9 rfl (lv_at hl 1 rfl) ?_
  obtain ⟨f4, v5⟩ := hH.a70 G1
  refine hw_alen (t := 0) (v := 6) hx hb hK v5 rfl rfl dX12_isWord_10 ?_
  refine lv_icmp_ne (tgt := 18) hx hb dX12_isWord_11 (by decide) (fun c7 => ?_) (fun c7 => ?_)
  · have b8 : x1.toInt ≠ 6 := hw_ine c7
    refine lv_iconst (v := 0) hx hb dX12_isWord_18 (by decide) ?_
    refine lv_istore_n (lv' := [(2, .int 0), (0, .ref h0), (1, .ref p1)]) hx hb dX12_isWord_19 rfl hl (by decide) rfl (fun ls hl => ?_)
    refine lv_iconst (v := 0) hx hb dX12_isWord_20 (by decide) ?_
    refine lv_istore_n (lv' := [(3, .int 0), (2, .int 0), (0, .ref h0), (1, .ref p1)]) hx hb dX12_isWord_21 rfl hl (by decide) rfl (fun ls hl => ?_)
    have L22 : ∀ (n13 : Nat) (y3_9 : Int32) (y2_10 : Int32) (hm : (6 - y3_9.toInt).toNat < n13) (g11 : 0 ≤ y2_10.toInt ∧ y2_10.toInt ≤ 1) (g12 : 0 ≤ y3_9.toInt ∧ y3_9.toInt ≤ 6) (inv22_0 : y2_10.toInt = 0 ∨ be_m.toInt - fi_m.toInt = 6) (ls : Array Slot) (hl : lv_has ls 4 [(3, .int y3_9), (2, .int y2_10), (0, .ref h0), (1, .ref p1)]), W p l e ({ frames := 0, cells := 0, slots := 0, locals := 0 } : Room) s m args below meth c s.heap [] 0 0 QQ (F0 m 22 ls []) := by
      intro n13
      induction n13 with
      | zero => intro y3_9 y2_10 hm; exact absurd hm (Nat.not_lt_zero _)
      | succ n13 ih22 =>
        intro y3_9 y2_10 hm g11 g12 inv22_0 ls hl
        refine lv_iload_n hx hb dX12_isWord_22 rfl (lv_at hl 0 rfl) ?_
        refine lv_aload_n hx hb dX12_isWord_23 rfl (lv_at hl 3 rfl) ?_
        obtain ⟨f14, v15⟩ := hH.a70 G1
        refine hw_alen (t := 0) (v := 6) hx hb hK v15 rfl rfl dX12_isWord_24 ?_
        refine lv_icmp_ge (tgt := 61) hx hb dX12_isWord_25 (by decide) (fun c17 => ?_) (fun c17 => ?_)
        · have b18 : 6 ≤ y3_9.toInt := hw_ile c17
          refine lv_iload_n hx hb dX12_isWord_61 rfl (lv_at hl 1 rfl) ?_
          rcases (hw_z01 (x := y2_10) (by omega)) with w19 | w19
          · have b20 : y2_10.toInt = 0 := hw_ieq w19
            rw [w19]
            exact hw_iretR (v := 0) hx hb hr hlocks hQ rfl (Or.inl rfl) dX12_isWord_62
          · have b21 : y2_10.toInt = 1 := hw_ieq w19
            rw [w19]
            exact hw_iretR (v := 1) hx hb hr hlocks hQ rfl (Or.inr (⟨rfl, (by first | rfl | trivial | assumption | omega | (intros; first | rfl | assumption | omega | (exfalso; omega)))⟩)) dX12_isWord_62
        · have b22 : y3_9.toInt < 6 := hw_inle c17
          refine lv_iload_n hx hb dX12_isWord_28 rfl (lv_at hl 1 rfl) ?_
          refine lv_if_eq (tgt := 61) hx hb dX12_isWord_29 (by decide) (fun c23 => ?_) (fun c23 => ?_)
          · have b24 : y2_10.toInt = 0 := hw_ieq c23
            refine lv_iload_n hx hb dX12_isWord_61 rfl (lv_at hl 1 rfl) ?_
            rcases (hw_z01 (x := y2_10) (by omega)) with w25 | w25
            · have b26 : y2_10.toInt = 0 := hw_ieq w25
              rw [w25]
              exact hw_iretR (v := 0) hx hb hr hlocks hQ rfl (Or.inl rfl) dX12_isWord_62
            · have b27 : y2_10.toInt = 1 := hw_ieq w25
              rw [w25]
              exact hw_iretR (v := 1) hx hb hr hlocks hQ rfl (Or.inr (⟨rfl, (by first | rfl | trivial | assumption | omega | (intros; first | rfl | assumption | omega | (exfalso; omega)))⟩)) dX12_isWord_62
          · have b28 : y2_10.toInt ≠ 0 := hw_ine c23
            refine lv_aload_n hx hb dX12_isWord_32 rfl (lv_at hl 2 rfl) ?_
            refine hw_get hx hb fg_45_11 hK vm rfl dX12_isWord_33 ?_
            refine lv_aload_n hx hb dX12_isWord_36 rfl (lv_at hl 2 rfl) ?_
            refine hw_get hx hb fg_129_11 hK vm rfl dX12_isWord_37 ?_
            refine lv_iload_n hx hb dX12_isWord_40 rfl (lv_at hl 0 rfl) ?_
            refine lv_iadd hx hb dX12_isWord_41 ?_
            refine lv_topi (fun x29 e30 => ?_)
            have t31 : x29.toInt = fi_m.toInt + y3_9.toInt := by rw [e30]; exact hw_add rfl rfl (by omega) (by omega)
            obtain ⟨f32, v33⟩ := hH.a55 (hw_RM_15 Rm)
            refine hw_iald hx hb hK v33 (hw_in (by omega) (by omega)) dX12_isWord_42 ?_
            refine lv_topi (fun x35 e36 => ?_)
            refine lv_aload_n hx hb dX12_isWord_43 rfl (lv_at hl 3 rfl) ?_
            refine lv_iload_n hx hb dX12_isWord_44 rfl (lv_at hl 0 rfl) ?_
            obtain ⟨f37, v38⟩ := hH.a70 G1
            refine hw_iald hx hb hK v38 (hw_in (by omega) (by omega)) dX12_isWord_45 ?_
            refine lv_topi (fun x40 e41 => ?_)
            refine lv_icmp_ne (tgt := 53) hx hb dX12_isWord_46 (by decide) (fun c42 => ?_) (fun c42 => ?_)
            · have b43 : x35.toInt ≠ x40.toInt := hw_ine c42
              refine lv_iconst (v := 0) hx hb dX12_isWord_53 (by decide) ?_
              refine lv_istore_n (lv' := [(2, .int 0), (3, .int y3_9), (0, .ref h0), (1, .ref p1)]) hx hb dX12_isWord_54 rfl hl (by decide) rfl (fun ls hl => ?_)
              obtain ⟨x44, e45⟩ : ∃ y : Int32, y = y3_9 + 1 := ⟨_, rfl⟩
              refine lv_iinc (v := x44) (lv' := [(3, .int x44), (2, .int 0), (0, .ref h0), (1, .ref p1)]) hx hb dX12_isWord_55 hl (k := 1) rfl (by rw [e45]; rfl) (by decide) rfl (fun ls hl => ?_)
              have t46 : x44.toInt = y3_9.toInt + 1 := by rw [e45]; exact hw_add rfl rfl (by omega) (by omega)
              refine lv_goto (tgt := 22) hx hb dX12_isWord_58 (by decide) ?_
              exact ih22 x44 0 (by first | omega | omega) ⟨by first | decide | omega, by first | decide | omega⟩ ⟨by first | decide | omega, by first | decide | omega⟩ (by first | (left; rfl) | omega) _ (lv_sub hl [0, 1, 2, 3] rfl)
            · have b47 : x35.toInt = x40.toInt := hw_ieq c42
              refine lv_iconst (v := 1) hx hb dX12_isWord_49 (by decide) ?_
              refine lv_goto (tgt := 54) hx hb dX12_isWord_50 (by decide) ?_
              refine lv_istore_n (lv' := [(2, .int 1), (3, .int y3_9), (0, .ref h0), (1, .ref p1)]) hx hb dX12_isWord_54 rfl hl (by decide) rfl (fun ls hl => ?_)
              obtain ⟨x48, e49⟩ : ∃ y : Int32, y = y3_9 + 1 := ⟨_, rfl⟩
              refine lv_iinc (v := x48) (lv' := [(3, .int x48), (2, .int 1), (0, .ref h0), (1, .ref p1)]) hx hb dX12_isWord_55 hl (k := 1) rfl (by rw [e49]; rfl) (by decide) rfl (fun ls hl => ?_)
              have t50 : x48.toInt = y3_9.toInt + 1 := by rw [e49]; exact hw_add rfl rfl (by omega) (by omega)
              refine lv_goto (tgt := 22) hx hb dX12_isWord_58 (by decide) ?_
              exact ih22 x48 1 (by first | omega | omega) ⟨by first | decide | omega, by first | decide | omega⟩ ⟨by first | decide | omega, by first | decide | omega⟩ (by first | (left; rfl) | omega) _ (lv_sub hl [0, 1, 2, 3] rfl)
    exact L22 _ 0 0 (Nat.lt_succ_self _) ⟨by first | decide | omega, by first | decide | omega⟩ ⟨by first | decide | omega, by first | decide | omega⟩ (by first | (left; rfl) | omega) _ (lv_sub hl [0, 1, 2, 3] rfl)
  · have b51 : x1.toInt = 6 := hw_ieq c7
    refine lv_iconst (v := 1) hx hb dX12_isWord_14 (by decide) ?_
    refine lv_goto (tgt := 19) hx hb dX12_isWord_15 (by decide) ?_
    refine lv_istore_n (lv' := [(2, .int 1), (0, .ref h0), (1, .ref p1)]) hx hb dX12_isWord_19 rfl hl (by decide) rfl (fun ls hl => ?_)
    refine lv_iconst (v := 0) hx hb dX12_isWord_20 (by decide) ?_
    refine lv_istore_n (lv' := [(3, .int 0), (2, .int 1), (0, .ref h0), (1, .ref p1)]) hx hb dX12_isWord_21 rfl hl (by decide) rfl (fun ls hl => ?_)
    have L22 : ∀ (n56 : Nat) (y3_52 : Int32) (y2_53 : Int32) (hm : (6 - y3_52.toInt).toNat < n56) (g54 : 0 ≤ y2_53.toInt ∧ y2_53.toInt ≤ 1) (g55 : 0 ≤ y3_52.toInt ∧ y3_52.toInt ≤ 6) (inv22_0 : y2_53.toInt = 0 ∨ be_m.toInt - fi_m.toInt = 6) (ls : Array Slot) (hl : lv_has ls 4 [(3, .int y3_52), (2, .int y2_53), (0, .ref h0), (1, .ref p1)]), W p l e ({ frames := 0, cells := 0, slots := 0, locals := 0 } : Room) s m args below meth c s.heap [] 0 0 QQ (F0 m 22 ls []) := by
      intro n56
      induction n56 with
      | zero => intro y3_52 y2_53 hm; exact absurd hm (Nat.not_lt_zero _)
      | succ n56 ih22 =>
        intro y3_52 y2_53 hm g54 g55 inv22_0 ls hl
        refine lv_iload_n hx hb dX12_isWord_22 rfl (lv_at hl 0 rfl) ?_
        refine lv_aload_n hx hb dX12_isWord_23 rfl (lv_at hl 3 rfl) ?_
        obtain ⟨f57, v58⟩ := hH.a70 G1
        refine hw_alen (t := 0) (v := 6) hx hb hK v58 rfl rfl dX12_isWord_24 ?_
        refine lv_icmp_ge (tgt := 61) hx hb dX12_isWord_25 (by decide) (fun c60 => ?_) (fun c60 => ?_)
        · have b61 : 6 ≤ y3_52.toInt := hw_ile c60
          refine lv_iload_n hx hb dX12_isWord_61 rfl (lv_at hl 1 rfl) ?_
          rcases (hw_z01 (x := y2_53) (by omega)) with w62 | w62
          · have b63 : y2_53.toInt = 0 := hw_ieq w62
            rw [w62]
            exact hw_iretR (v := 0) hx hb hr hlocks hQ rfl (Or.inl rfl) dX12_isWord_62
          · have b64 : y2_53.toInt = 1 := hw_ieq w62
            rw [w62]
            exact hw_iretR (v := 1) hx hb hr hlocks hQ rfl (Or.inr (⟨rfl, (by first | rfl | trivial | assumption | omega | (intros; first | rfl | assumption | omega | (exfalso; omega)))⟩)) dX12_isWord_62
        · have b65 : y3_52.toInt < 6 := hw_inle c60
          refine lv_iload_n hx hb dX12_isWord_28 rfl (lv_at hl 1 rfl) ?_
          refine lv_if_eq (tgt := 61) hx hb dX12_isWord_29 (by decide) (fun c66 => ?_) (fun c66 => ?_)
          · have b67 : y2_53.toInt = 0 := hw_ieq c66
            refine lv_iload_n hx hb dX12_isWord_61 rfl (lv_at hl 1 rfl) ?_
            rcases (hw_z01 (x := y2_53) (by omega)) with w68 | w68
            · have b69 : y2_53.toInt = 0 := hw_ieq w68
              rw [w68]
              exact hw_iretR (v := 0) hx hb hr hlocks hQ rfl (Or.inl rfl) dX12_isWord_62
            · have b70 : y2_53.toInt = 1 := hw_ieq w68
              rw [w68]
              exact hw_iretR (v := 1) hx hb hr hlocks hQ rfl (Or.inr (⟨rfl, (by first | rfl | trivial | assumption | omega | (intros; first | rfl | assumption | omega | (exfalso; omega)))⟩)) dX12_isWord_62
          · have b71 : y2_53.toInt ≠ 0 := hw_ine c66
            refine lv_aload_n hx hb dX12_isWord_32 rfl (lv_at hl 2 rfl) ?_
            refine hw_get hx hb fg_45_11 hK vm rfl dX12_isWord_33 ?_
            refine lv_aload_n hx hb dX12_isWord_36 rfl (lv_at hl 2 rfl) ?_
            refine hw_get hx hb fg_129_11 hK vm rfl dX12_isWord_37 ?_
            refine lv_iload_n hx hb dX12_isWord_40 rfl (lv_at hl 0 rfl) ?_
            refine lv_iadd hx hb dX12_isWord_41 ?_
            refine lv_topi (fun x72 e73 => ?_)
            have t74 : x72.toInt = fi_m.toInt + y3_52.toInt := by rw [e73]; exact hw_add rfl rfl (by omega) (by omega)
            obtain ⟨f75, v76⟩ := hH.a55 (hw_RM_15 Rm)
            refine hw_iald hx hb hK v76 (hw_in (by omega) (by omega)) dX12_isWord_42 ?_
            refine lv_topi (fun x78 e79 => ?_)
            refine lv_aload_n hx hb dX12_isWord_43 rfl (lv_at hl 3 rfl) ?_
            refine lv_iload_n hx hb dX12_isWord_44 rfl (lv_at hl 0 rfl) ?_
            obtain ⟨f80, v81⟩ := hH.a70 G1
            refine hw_iald hx hb hK v81 (hw_in (by omega) (by omega)) dX12_isWord_45 ?_
            refine lv_topi (fun x83 e84 => ?_)
            refine lv_icmp_ne (tgt := 53) hx hb dX12_isWord_46 (by decide) (fun c85 => ?_) (fun c85 => ?_)
            · have b86 : x78.toInt ≠ x83.toInt := hw_ine c85
              refine lv_iconst (v := 0) hx hb dX12_isWord_53 (by decide) ?_
              refine lv_istore_n (lv' := [(2, .int 0), (3, .int y3_52), (0, .ref h0), (1, .ref p1)]) hx hb dX12_isWord_54 rfl hl (by decide) rfl (fun ls hl => ?_)
              obtain ⟨x87, e88⟩ : ∃ y : Int32, y = y3_52 + 1 := ⟨_, rfl⟩
              refine lv_iinc (v := x87) (lv' := [(3, .int x87), (2, .int 0), (0, .ref h0), (1, .ref p1)]) hx hb dX12_isWord_55 hl (k := 1) rfl (by rw [e88]; rfl) (by decide) rfl (fun ls hl => ?_)
              have t89 : x87.toInt = y3_52.toInt + 1 := by rw [e88]; exact hw_add rfl rfl (by omega) (by omega)
              refine lv_goto (tgt := 22) hx hb dX12_isWord_58 (by decide) ?_
              exact ih22 x87 0 (by first | omega | omega) ⟨by first | decide | omega, by first | decide | omega⟩ ⟨by first | decide | omega, by first | decide | omega⟩ (by first | (left; rfl) | omega) _ (lv_sub hl [0, 1, 2, 3] rfl)
            · have b90 : x78.toInt = x83.toInt := hw_ieq c85
              refine lv_iconst (v := 1) hx hb dX12_isWord_49 (by decide) ?_
              refine lv_goto (tgt := 54) hx hb dX12_isWord_50 (by decide) ?_
              refine lv_istore_n (lv' := [(2, .int 1), (3, .int y3_52), (0, .ref h0), (1, .ref p1)]) hx hb dX12_isWord_54 rfl hl (by decide) rfl (fun ls hl => ?_)
              obtain ⟨x91, e92⟩ : ∃ y : Int32, y = y3_52 + 1 := ⟨_, rfl⟩
              refine lv_iinc (v := x91) (lv' := [(3, .int x91), (2, .int 1), (0, .ref h0), (1, .ref p1)]) hx hb dX12_isWord_55 hl (k := 1) rfl (by rw [e92]; rfl) (by decide) rfl (fun ls hl => ?_)
              have t93 : x91.toInt = y3_52.toInt + 1 := by rw [e92]; exact hw_add rfl rfl (by omega) (by omega)
              refine lv_goto (tgt := 22) hx hb dX12_isWord_58 (by decide) ?_
              exact ih22 x91 1 (by first | omega | omega) ⟨by first | decide | omega, by first | decide | omega⟩ ⟨by first | decide | omega, by first | decide | omega⟩ (by first | (left; rfl) | omega) _ (lv_sub hl [0, 1, 2, 3] rfl)
    exact L22 _ 0 1 (Nat.lt_succ_self _) ⟨by first | decide | omega, by first | decide | omega⟩ ⟨by first | decide | omega, by first | decide | omega⟩ (by first | (left; rfl) | omega) _ (lv_sub hl [0, 1, 2, 3] rfl)

set_option maxHeartbeats 4000000 in
set_option maxRecDepth 100000 in
theorem k_X12_isWord71 (l : Launch) (D : hw_D) (G : Nat → Nat) (h0 : Nat) (p1 : Nat) (sz : Nat) (rm : Nat → Nat) (ud_m ky_m lo_m wk_m dk_m ln_m sm_m fi_m be_m rk_m rl_m rw_m cl_m dg_m : Int32) (G0 : G h0 = 9) (G1 : G p1 = 71) (Rm : hw_RM G rm) (gud_m : 0 ≤ ud_m.toInt ∧ ud_m.toInt ≤ 8) (gky_m : 0 ≤ ky_m.toInt ∧ ky_m.toInt ≤ 7) (glo_m : 0 ≤ lo_m.toInt ∧ lo_m.toInt ≤ 7) (gwk_m : 0 ≤ wk_m.toInt ∧ wk_m.toInt ≤ 3) (gln_m : 0 ≤ ln_m.toInt ∧ ln_m.toInt ≤ 200) (gsm_m : 0 ≤ sm_m.toInt ∧ sm_m.toInt ≤ 6) (gfi_m : 0 ≤ fi_m.toInt ∧ fi_m.toInt ≤ 200) (gbe_m : 0 ≤ be_m.toInt ∧ be_m.toInt ≤ 200) (grk_m : 0 ≤ rk_m.toInt ∧ rk_m.toInt ≤ 7) (grl_m : 0 ≤ rl_m.toInt ∧ rl_m.toInt ≤ 7) (grw_m : 0 ≤ rw_m.toInt ∧ rw_m.toInt ≤ 3) (gdg_m : 0 ≤ dg_m.toInt ∧ dg_m.toInt ≤ 1) : Met l yX12_isWord wsX12_isWord ({ frames := 0, cells := 0, slots := 0, locals := 0 } : Room) (hw_PC D G [.ref h0, .ref p1] sz (fun H => va_at D.1 vwCl (h0, .inr (11, hw_LM rm ud_m ky_m lo_m wk_m dk_m ln_m sm_m fi_m be_m rk_m rl_m rw_m cl_m dg_m)) H)) (hw_QR (fun v => (v = .int 0) ∨ (v = .int 1 ∧ be_m.toInt - fi_m.toInt = 5))) 0 0 (fun _ => False) := by
  refine hw_met (cc := cX12_isWord) (maxL := 4) (ret := (some .boolean)) (plainFor_of_name (by decide)) rfl (Nat.le_of_ble_eq_true rfl) ?_
  intro p e s m args below meth c QQ ls hsz hx hb hml hr hts hown hlocks hnm hH hK hST hF hQ hl
  subst hsz
  have hS : va_S (hw_AW G [] s.heap.size) s.heap s.heap [] := va_S.rf
  have vm := hF
  have hl : lv_has ls 4 [(0, .ref h0), (1, .ref p1)] := hl
  have u_11 : ∀ w ∈ u_ws RX12 TX12 45, w.before args s = true := fun w hw => hts w ((by decide +kernel : ∀ w ∈ u_ws RX12 TX12 45, w ∈ wsX12_isWord) w hw)
  have fg_126_11 : hw_FG s args m 126 11 21 := ⟨RX12, "WardWalkersModel", RX12, TX12, 45, u_11, hown, rfl, by decide, (hts (.fieldLink RX12 126 "WardWalkersModel" "behind" "I") (by decide +kernel)), (fun _ h9 => h9)⟩
  have fg_129_11 : hw_FG s args m 129 11 20 := ⟨RX12, "WardWalkersModel", RX12, TX12, 45, u_11, hown, rfl, by decide, (hts (.fieldLink RX12 129 "WardWalkersModel" "first" "I") (by decide +kernel)), (fun _ h9 => h9)⟩
  have fg_45_11 : hw_FG s args m 45 11 15 := ⟨RX12, "WardWalkersModel", RX12, TX12, 45, u_11, hown, rfl, by decide, (hts (.fieldLink RX12 45 "WardWalkersModel" "text" "[I") (by decide +kernel)), (fun _ h9 => h9)⟩
  refine lv_aload_n hx hb dX12_isWord_0 rfl (lv_at hl 0 rfl) ?_
  refine hw_get hx hb fg_126_11 hK vm rfl dX12_isWord_1 ?_
  refine lv_aload_n hx hb dX12_isWord_4 rfl (lv_at hl 0 rfl) ?_
  refine hw_get hx hb fg_129_11 hK vm rfl dX12_isWord_5 ?_
  refine lv_isub hx hb dX12_isWord_8 ?_
  refine lv_topi (fun x1 e2 => ?_)
  have t3 : x1.toInt = be_m.toInt - fi_m.toInt := by rw [e2]; exact hw_sub rfl rfl (by omega) (by omega)
  refine lv_aload_n hx hb dX12_isWord_9 rfl (lv_at hl 1 rfl) ?_
  obtain ⟨f4, v5⟩ := hH.a71 G1
  refine hw_alen (t := 0) (v := 5) hx hb hK v5 rfl rfl dX12_isWord_10 ?_
  refine lv_icmp_ne (tgt := 18) hx hb dX12_isWord_11 (by decide) (fun c7 => ?_) (fun c7 => ?_)
  · have b8 : x1.toInt ≠ 5 := hw_ine c7
    refine lv_iconst (v := 0) hx hb dX12_isWord_18 (by decide) ?_
    refine lv_istore_n (lv' := [(2, .int 0), (0, .ref h0), (1, .ref p1)]) hx hb dX12_isWord_19 rfl hl (by decide) rfl (fun ls hl => ?_)
    refine lv_iconst (v := 0) hx hb dX12_isWord_20 (by decide) ?_
    refine lv_istore_n (lv' := [(3, .int 0), (2, .int 0), (0, .ref h0), (1, .ref p1)]) hx hb dX12_isWord_21 rfl hl (by decide) rfl (fun ls hl => ?_)
    have L22 : ∀ (n13 : Nat) (y3_9 : Int32) (y2_10 : Int32) (hm : (5 - y3_9.toInt).toNat < n13) (g11 : 0 ≤ y2_10.toInt ∧ y2_10.toInt ≤ 1) (g12 : 0 ≤ y3_9.toInt ∧ y3_9.toInt ≤ 5) (inv22_0 : y2_10.toInt = 0 ∨ be_m.toInt - fi_m.toInt = 5) (ls : Array Slot) (hl : lv_has ls 4 [(3, .int y3_9), (2, .int y2_10), (0, .ref h0), (1, .ref p1)]), W p l e ({ frames := 0, cells := 0, slots := 0, locals := 0 } : Room) s m args below meth c s.heap [] 0 0 QQ (F0 m 22 ls []) := by
      intro n13
      induction n13 with
      | zero => intro y3_9 y2_10 hm; exact absurd hm (Nat.not_lt_zero _)
      | succ n13 ih22 =>
        intro y3_9 y2_10 hm g11 g12 inv22_0 ls hl
        refine lv_iload_n hx hb dX12_isWord_22 rfl (lv_at hl 0 rfl) ?_
        refine lv_aload_n hx hb dX12_isWord_23 rfl (lv_at hl 3 rfl) ?_
        obtain ⟨f14, v15⟩ := hH.a71 G1
        refine hw_alen (t := 0) (v := 5) hx hb hK v15 rfl rfl dX12_isWord_24 ?_
        refine lv_icmp_ge (tgt := 61) hx hb dX12_isWord_25 (by decide) (fun c17 => ?_) (fun c17 => ?_)
        · have b18 : 5 ≤ y3_9.toInt := hw_ile c17
          refine lv_iload_n hx hb dX12_isWord_61 rfl (lv_at hl 1 rfl) ?_
          rcases (hw_z01 (x := y2_10) (by omega)) with w19 | w19
          · have b20 : y2_10.toInt = 0 := hw_ieq w19
            rw [w19]
            exact hw_iretR (v := 0) hx hb hr hlocks hQ rfl (Or.inl rfl) dX12_isWord_62
          · have b21 : y2_10.toInt = 1 := hw_ieq w19
            rw [w19]
            exact hw_iretR (v := 1) hx hb hr hlocks hQ rfl (Or.inr (⟨rfl, (by first | rfl | trivial | assumption | omega | (intros; first | rfl | assumption | omega | (exfalso; omega)))⟩)) dX12_isWord_62
        · have b22 : y3_9.toInt < 5 := hw_inle c17
          refine lv_iload_n hx hb dX12_isWord_28 rfl (lv_at hl 1 rfl) ?_
          refine lv_if_eq (tgt := 61) hx hb dX12_isWord_29 (by decide) (fun c23 => ?_) (fun c23 => ?_)
          · have b24 : y2_10.toInt = 0 := hw_ieq c23
            refine lv_iload_n hx hb dX12_isWord_61 rfl (lv_at hl 1 rfl) ?_
            rcases (hw_z01 (x := y2_10) (by omega)) with w25 | w25
            · have b26 : y2_10.toInt = 0 := hw_ieq w25
              rw [w25]
              exact hw_iretR (v := 0) hx hb hr hlocks hQ rfl (Or.inl rfl) dX12_isWord_62
            · have b27 : y2_10.toInt = 1 := hw_ieq w25
              rw [w25]
              exact hw_iretR (v := 1) hx hb hr hlocks hQ rfl (Or.inr (⟨rfl, (by first | rfl | trivial | assumption | omega | (intros; first | rfl | assumption | omega | (exfalso; omega)))⟩)) dX12_isWord_62
          · have b28 : y2_10.toInt ≠ 0 := hw_ine c23
            refine lv_aload_n hx hb dX12_isWord_32 rfl (lv_at hl 2 rfl) ?_
            refine hw_get hx hb fg_45_11 hK vm rfl dX12_isWord_33 ?_
            refine lv_aload_n hx hb dX12_isWord_36 rfl (lv_at hl 2 rfl) ?_
            refine hw_get hx hb fg_129_11 hK vm rfl dX12_isWord_37 ?_
            refine lv_iload_n hx hb dX12_isWord_40 rfl (lv_at hl 0 rfl) ?_
            refine lv_iadd hx hb dX12_isWord_41 ?_
            refine lv_topi (fun x29 e30 => ?_)
            have t31 : x29.toInt = fi_m.toInt + y3_9.toInt := by rw [e30]; exact hw_add rfl rfl (by omega) (by omega)
            obtain ⟨f32, v33⟩ := hH.a55 (hw_RM_15 Rm)
            refine hw_iald hx hb hK v33 (hw_in (by omega) (by omega)) dX12_isWord_42 ?_
            refine lv_topi (fun x35 e36 => ?_)
            refine lv_aload_n hx hb dX12_isWord_43 rfl (lv_at hl 3 rfl) ?_
            refine lv_iload_n hx hb dX12_isWord_44 rfl (lv_at hl 0 rfl) ?_
            obtain ⟨f37, v38⟩ := hH.a71 G1
            refine hw_iald hx hb hK v38 (hw_in (by omega) (by omega)) dX12_isWord_45 ?_
            refine lv_topi (fun x40 e41 => ?_)
            refine lv_icmp_ne (tgt := 53) hx hb dX12_isWord_46 (by decide) (fun c42 => ?_) (fun c42 => ?_)
            · have b43 : x35.toInt ≠ x40.toInt := hw_ine c42
              refine lv_iconst (v := 0) hx hb dX12_isWord_53 (by decide) ?_
              refine lv_istore_n (lv' := [(2, .int 0), (3, .int y3_9), (0, .ref h0), (1, .ref p1)]) hx hb dX12_isWord_54 rfl hl (by decide) rfl (fun ls hl => ?_)
              obtain ⟨x44, e45⟩ : ∃ y : Int32, y = y3_9 + 1 := ⟨_, rfl⟩
              refine lv_iinc (v := x44) (lv' := [(3, .int x44), (2, .int 0), (0, .ref h0), (1, .ref p1)]) hx hb dX12_isWord_55 hl (k := 1) rfl (by rw [e45]; rfl) (by decide) rfl (fun ls hl => ?_)
              have t46 : x44.toInt = y3_9.toInt + 1 := by rw [e45]; exact hw_add rfl rfl (by omega) (by omega)
              refine lv_goto (tgt := 22) hx hb dX12_isWord_58 (by decide) ?_
              exact ih22 x44 0 (by first | omega | omega) ⟨by first | decide | omega, by first | decide | omega⟩ ⟨by first | decide | omega, by first | decide | omega⟩ (by first | (left; rfl) | omega) _ (lv_sub hl [0, 1, 2, 3] rfl)
            · have b47 : x35.toInt = x40.toInt := hw_ieq c42
              refine lv_iconst (v := 1) hx hb dX12_isWord_49 (by decide) ?_
              refine lv_goto (tgt := 54) hx hb dX12_isWord_50 (by decide) ?_
              refine lv_istore_n (lv' := [(2, .int 1), (3, .int y3_9), (0, .ref h0), (1, .ref p1)]) hx hb dX12_isWord_54 rfl hl (by decide) rfl (fun ls hl => ?_)
              obtain ⟨x48, e49⟩ : ∃ y : Int32, y = y3_9 + 1 := ⟨_, rfl⟩
              refine lv_iinc (v := x48) (lv' := [(3, .int x48), (2, .int 1), (0, .ref h0), (1, .ref p1)]) hx hb dX12_isWord_55 hl (k := 1) rfl (by rw [e49]; rfl) (by decide) rfl (fun ls hl => ?_)
              have t50 : x48.toInt = y3_9.toInt + 1 := by rw [e49]; exact hw_add rfl rfl (by omega) (by omega)
              refine lv_goto (tgt := 22) hx hb dX12_isWord_58 (by decide) ?_
              exact ih22 x48 1 (by first | omega | omega) ⟨by first | decide | omega, by first | decide | omega⟩ ⟨by first | decide | omega, by first | decide | omega⟩ (by first | (left; rfl) | omega) _ (lv_sub hl [0, 1, 2, 3] rfl)
    exact L22 _ 0 0 (Nat.lt_succ_self _) ⟨by first | decide | omega, by first | decide | omega⟩ ⟨by first | decide | omega, by first | decide | omega⟩ (by first | (left; rfl) | omega) _ (lv_sub hl [0, 1, 2, 3] rfl)
  · have b51 : x1.toInt = 5 := hw_ieq c7
    refine lv_iconst (v := 1) hx hb dX12_isWord_14 (by decide) ?_
    refine lv_goto (tgt := 19) hx hb dX12_isWord_15 (by decide) ?_
    refine lv_istore_n (lv' := [(2, .int 1), (0, .ref h0), (1, .ref p1)]) hx hb dX12_isWord_19 rfl hl (by decide) rfl (fun ls hl => ?_)
    refine lv_iconst (v := 0) hx hb dX12_isWord_20 (by decide) ?_
    refine lv_istore_n (lv' := [(3, .int 0), (2, .int 1), (0, .ref h0), (1, .ref p1)]) hx hb dX12_isWord_21 rfl hl (by decide) rfl (fun ls hl => ?_)
    have L22 : ∀ (n56 : Nat) (y3_52 : Int32) (y2_53 : Int32) (hm : (5 - y3_52.toInt).toNat < n56) (g54 : 0 ≤ y2_53.toInt ∧ y2_53.toInt ≤ 1) (g55 : 0 ≤ y3_52.toInt ∧ y3_52.toInt ≤ 5) (inv22_0 : y2_53.toInt = 0 ∨ be_m.toInt - fi_m.toInt = 5) (ls : Array Slot) (hl : lv_has ls 4 [(3, .int y3_52), (2, .int y2_53), (0, .ref h0), (1, .ref p1)]), W p l e ({ frames := 0, cells := 0, slots := 0, locals := 0 } : Room) s m args below meth c s.heap [] 0 0 QQ (F0 m 22 ls []) := by
      intro n56
      induction n56 with
      | zero => intro y3_52 y2_53 hm; exact absurd hm (Nat.not_lt_zero _)
      | succ n56 ih22 =>
        intro y3_52 y2_53 hm g54 g55 inv22_0 ls hl
        refine lv_iload_n hx hb dX12_isWord_22 rfl (lv_at hl 0 rfl) ?_
        refine lv_aload_n hx hb dX12_isWord_23 rfl (lv_at hl 3 rfl) ?_
        obtain ⟨f57, v58⟩ := hH.a71 G1
        refine hw_alen (t := 0) (v := 5) hx hb hK v58 rfl rfl dX12_isWord_24 ?_
        refine lv_icmp_ge (tgt := 61) hx hb dX12_isWord_25 (by decide) (fun c60 => ?_) (fun c60 => ?_)
        · have b61 : 5 ≤ y3_52.toInt := hw_ile c60
          refine lv_iload_n hx hb dX12_isWord_61 rfl (lv_at hl 1 rfl) ?_
          rcases (hw_z01 (x := y2_53) (by omega)) with w62 | w62
          · have b63 : y2_53.toInt = 0 := hw_ieq w62
            rw [w62]
            exact hw_iretR (v := 0) hx hb hr hlocks hQ rfl (Or.inl rfl) dX12_isWord_62
          · have b64 : y2_53.toInt = 1 := hw_ieq w62
            rw [w62]
            exact hw_iretR (v := 1) hx hb hr hlocks hQ rfl (Or.inr (⟨rfl, (by first | rfl | trivial | assumption | omega | (intros; first | rfl | assumption | omega | (exfalso; omega)))⟩)) dX12_isWord_62
        · have b65 : y3_52.toInt < 5 := hw_inle c60
          refine lv_iload_n hx hb dX12_isWord_28 rfl (lv_at hl 1 rfl) ?_
          refine lv_if_eq (tgt := 61) hx hb dX12_isWord_29 (by decide) (fun c66 => ?_) (fun c66 => ?_)
          · have b67 : y2_53.toInt = 0 := hw_ieq c66
            refine lv_iload_n hx hb dX12_isWord_61 rfl (lv_at hl 1 rfl) ?_
            rcases (hw_z01 (x := y2_53) (by omega)) with w68 | w68
            · have b69 : y2_53.toInt = 0 := hw_ieq w68
              rw [w68]
              exact hw_iretR (v := 0) hx hb hr hlocks hQ rfl (Or.inl rfl) dX12_isWord_62
            · have b70 : y2_53.toInt = 1 := hw_ieq w68
              rw [w68]
              exact hw_iretR (v := 1) hx hb hr hlocks hQ rfl (Or.inr (⟨rfl, (by first | rfl | trivial | assumption | omega | (intros; first | rfl | assumption | omega | (exfalso; omega)))⟩)) dX12_isWord_62
          · have b71 : y2_53.toInt ≠ 0 := hw_ine c66
            refine lv_aload_n hx hb dX12_isWord_32 rfl (lv_at hl 2 rfl) ?_
            refine hw_get hx hb fg_45_11 hK vm rfl dX12_isWord_33 ?_
            refine lv_aload_n hx hb dX12_isWord_36 rfl (lv_at hl 2 rfl) ?_
            refine hw_get hx hb fg_129_11 hK vm rfl dX12_isWord_37 ?_
            refine lv_iload_n hx hb dX12_isWord_40 rfl (lv_at hl 0 rfl) ?_
            refine lv_iadd hx hb dX12_isWord_41 ?_
            refine lv_topi (fun x72 e73 => ?_)
            have t74 : x72.toInt = fi_m.toInt + y3_52.toInt := by rw [e73]; exact hw_add rfl rfl (by omega) (by omega)
            obtain ⟨f75, v76⟩ := hH.a55 (hw_RM_15 Rm)
            refine hw_iald hx hb hK v76 (hw_in (by omega) (by omega)) dX12_isWord_42 ?_
            refine lv_topi (fun x78 e79 => ?_)
            refine lv_aload_n hx hb dX12_isWord_43 rfl (lv_at hl 3 rfl) ?_
            refine lv_iload_n hx hb dX12_isWord_44 rfl (lv_at hl 0 rfl) ?_
            obtain ⟨f80, v81⟩ := hH.a71 G1
            refine hw_iald hx hb hK v81 (hw_in (by omega) (by omega)) dX12_isWord_45 ?_
            refine lv_topi (fun x83 e84 => ?_)
            refine lv_icmp_ne (tgt := 53) hx hb dX12_isWord_46 (by decide) (fun c85 => ?_) (fun c85 => ?_)
            · have b86 : x78.toInt ≠ x83.toInt := hw_ine c85
              refine lv_iconst (v := 0) hx hb dX12_isWord_53 (by decide) ?_
              refine lv_istore_n (lv' := [(2, .int 0), (3, .int y3_52), (0, .ref h0), (1, .ref p1)]) hx hb dX12_isWord_54 rfl hl (by decide) rfl (fun ls hl => ?_)
              obtain ⟨x87, e88⟩ : ∃ y : Int32, y = y3_52 + 1 := ⟨_, rfl⟩
              refine lv_iinc (v := x87) (lv' := [(3, .int x87), (2, .int 0), (0, .ref h0), (1, .ref p1)]) hx hb dX12_isWord_55 hl (k := 1) rfl (by rw [e88]; rfl) (by decide) rfl (fun ls hl => ?_)
              have t89 : x87.toInt = y3_52.toInt + 1 := by rw [e88]; exact hw_add rfl rfl (by omega) (by omega)
              refine lv_goto (tgt := 22) hx hb dX12_isWord_58 (by decide) ?_
              exact ih22 x87 0 (by first | omega | omega) ⟨by first | decide | omega, by first | decide | omega⟩ ⟨by first | decide | omega, by first | decide | omega⟩ (by first | (left; rfl) | omega) _ (lv_sub hl [0, 1, 2, 3] rfl)
            · have b90 : x78.toInt = x83.toInt := hw_ieq c85
              refine lv_iconst (v := 1) hx hb dX12_isWord_49 (by decide) ?_
              refine lv_goto (tgt := 54) hx hb dX12_isWord_50 (by decide) ?_
              refine lv_istore_n (lv' := [(2, .int 1), (3, .int y3_52), (0, .ref h0), (1, .ref p1)]) hx hb dX12_isWord_54 rfl hl (by decide) rfl (fun ls hl => ?_)
              obtain ⟨x91, e92⟩ : ∃ y : Int32, y = y3_52 + 1 := ⟨_, rfl⟩
              refine lv_iinc (v := x91) (lv' := [(3, .int x91), (2, .int 1), (0, .ref h0), (1, .ref p1)]) hx hb dX12_isWord_55 hl (k := 1) rfl (by rw [e92]; rfl) (by decide) rfl (fun ls hl => ?_)
              have t93 : x91.toInt = y3_52.toInt + 1 := by rw [e92]; exact hw_add rfl rfl (by omega) (by omega)
              refine lv_goto (tgt := 22) hx hb dX12_isWord_58 (by decide) ?_
              exact ih22 x91 1 (by first | omega | omega) ⟨by first | decide | omega, by first | decide | omega⟩ ⟨by first | decide | omega, by first | decide | omega⟩ (by first | (left; rfl) | omega) _ (lv_sub hl [0, 1, 2, 3] rfl)
    exact L22 _ 0 1 (Nat.lt_succ_self _) ⟨by first | decide | omega, by first | decide | omega⟩ ⟨by first | decide | omega, by first | decide | omega⟩ (by first | (left; rfl) | omega) _ (lv_sub hl [0, 1, 2, 3] rfl)

set_option maxHeartbeats 4000000 in
set_option maxRecDepth 100000 in
theorem k_X12_isWord72 (l : Launch) (D : hw_D) (G : Nat → Nat) (h0 : Nat) (p1 : Nat) (sz : Nat) (rm : Nat → Nat) (ud_m ky_m lo_m wk_m dk_m ln_m sm_m fi_m be_m rk_m rl_m rw_m cl_m dg_m : Int32) (G0 : G h0 = 9) (G1 : G p1 = 72) (Rm : hw_RM G rm) (gud_m : 0 ≤ ud_m.toInt ∧ ud_m.toInt ≤ 8) (gky_m : 0 ≤ ky_m.toInt ∧ ky_m.toInt ≤ 7) (glo_m : 0 ≤ lo_m.toInt ∧ lo_m.toInt ≤ 7) (gwk_m : 0 ≤ wk_m.toInt ∧ wk_m.toInt ≤ 3) (gln_m : 0 ≤ ln_m.toInt ∧ ln_m.toInt ≤ 200) (gsm_m : 0 ≤ sm_m.toInt ∧ sm_m.toInt ≤ 6) (gfi_m : 0 ≤ fi_m.toInt ∧ fi_m.toInt ≤ 200) (gbe_m : 0 ≤ be_m.toInt ∧ be_m.toInt ≤ 200) (grk_m : 0 ≤ rk_m.toInt ∧ rk_m.toInt ≤ 7) (grl_m : 0 ≤ rl_m.toInt ∧ rl_m.toInt ≤ 7) (grw_m : 0 ≤ rw_m.toInt ∧ rw_m.toInt ≤ 3) (gdg_m : 0 ≤ dg_m.toInt ∧ dg_m.toInt ≤ 1) : Met l yX12_isWord wsX12_isWord ({ frames := 0, cells := 0, slots := 0, locals := 0 } : Room) (hw_PC D G [.ref h0, .ref p1] sz (fun H => va_at D.1 vwCl (h0, .inr (11, hw_LM rm ud_m ky_m lo_m wk_m dk_m ln_m sm_m fi_m be_m rk_m rl_m rw_m cl_m dg_m)) H)) (hw_QR (fun v => (v = .int 0) ∨ (v = .int 1 ∧ be_m.toInt - fi_m.toInt = 4))) 0 0 (fun _ => False) := by
  refine hw_met (cc := cX12_isWord) (maxL := 4) (ret := (some .boolean)) (plainFor_of_name (by decide)) rfl (Nat.le_of_ble_eq_true rfl) ?_
  intro p e s m args below meth c QQ ls hsz hx hb hml hr hts hown hlocks hnm hH hK hST hF hQ hl
  subst hsz
  have hS : va_S (hw_AW G [] s.heap.size) s.heap s.heap [] := va_S.rf
  have vm := hF
  have hl : lv_has ls 4 [(0, .ref h0), (1, .ref p1)] := hl
  have u_11 : ∀ w ∈ u_ws RX12 TX12 45, w.before args s = true := fun w hw => hts w ((by decide +kernel : ∀ w ∈ u_ws RX12 TX12 45, w ∈ wsX12_isWord) w hw)
  have fg_126_11 : hw_FG s args m 126 11 21 := ⟨RX12, "WardWalkersModel", RX12, TX12, 45, u_11, hown, rfl, by decide, (hts (.fieldLink RX12 126 "WardWalkersModel" "behind" "I") (by decide +kernel)), (fun _ h9 => h9)⟩
  have fg_129_11 : hw_FG s args m 129 11 20 := ⟨RX12, "WardWalkersModel", RX12, TX12, 45, u_11, hown, rfl, by decide, (hts (.fieldLink RX12 129 "WardWalkersModel" "first" "I") (by decide +kernel)), (fun _ h9 => h9)⟩
  have fg_45_11 : hw_FG s args m 45 11 15 := ⟨RX12, "WardWalkersModel", RX12, TX12, 45, u_11, hown, rfl, by decide, (hts (.fieldLink RX12 45 "WardWalkersModel" "text" "[I") (by decide +kernel)), (fun _ h9 => h9)⟩
  refine lv_aload_n hx hb dX12_isWord_0 rfl (lv_at hl 0 rfl) ?_
  refine hw_get hx hb fg_126_11 hK vm rfl dX12_isWord_1 ?_
  refine lv_aload_n hx hb dX12_isWord_4 rfl (lv_at hl 0 rfl) ?_
  refine hw_get hx hb fg_129_11 hK vm rfl dX12_isWord_5 ?_
  refine lv_isub hx hb dX12_isWord_8 ?_
  refine lv_topi (fun x1 e2 => ?_)
  have t3 : x1.toInt = be_m.toInt - fi_m.toInt := by rw [e2]; exact hw_sub rfl rfl (by omega) (by omega)
  refine lv_aload_n hx hb dX12_isWord_9 rfl (lv_at hl 1 rfl) ?_
  obtain ⟨f4, v5⟩ := hH.a72 G1
  refine hw_alen (t := 0) (v := 4) hx hb hK v5 rfl rfl dX12_isWord_10 ?_
  refine lv_icmp_ne (tgt := 18) hx hb dX12_isWord_11 (by decide) (fun c7 => ?_) (fun c7 => ?_)
  · have b8 : x1.toInt ≠ 4 := hw_ine c7
    refine lv_iconst (v := 0) hx hb dX12_isWord_18 (by decide) ?_
    refine lv_istore_n (lv' := [(2, .int 0), (0, .ref h0), (1, .ref p1)]) hx hb dX12_isWord_19 rfl hl (by decide) rfl (fun ls hl => ?_)
    refine lv_iconst (v := 0) hx hb dX12_isWord_20 (by decide) ?_
    refine lv_istore_n (lv' := [(3, .int 0), (2, .int 0), (0, .ref h0), (1, .ref p1)]) hx hb dX12_isWord_21 rfl hl (by decide) rfl (fun ls hl => ?_)
    have L22 : ∀ (n13 : Nat) (y3_9 : Int32) (y2_10 : Int32) (hm : (4 - y3_9.toInt).toNat < n13) (g11 : 0 ≤ y2_10.toInt ∧ y2_10.toInt ≤ 1) (g12 : 0 ≤ y3_9.toInt ∧ y3_9.toInt ≤ 4) (inv22_0 : y2_10.toInt = 0 ∨ be_m.toInt - fi_m.toInt = 4) (ls : Array Slot) (hl : lv_has ls 4 [(3, .int y3_9), (2, .int y2_10), (0, .ref h0), (1, .ref p1)]), W p l e ({ frames := 0, cells := 0, slots := 0, locals := 0 } : Room) s m args below meth c s.heap [] 0 0 QQ (F0 m 22 ls []) := by
      intro n13
      induction n13 with
      | zero => intro y3_9 y2_10 hm; exact absurd hm (Nat.not_lt_zero _)
      | succ n13 ih22 =>
        intro y3_9 y2_10 hm g11 g12 inv22_0 ls hl
        refine lv_iload_n hx hb dX12_isWord_22 rfl (lv_at hl 0 rfl) ?_
        refine lv_aload_n hx hb dX12_isWord_23 rfl (lv_at hl 3 rfl) ?_
        obtain ⟨f14, v15⟩ := hH.a72 G1
        refine hw_alen (t := 0) (v := 4) hx hb hK v15 rfl rfl dX12_isWord_24 ?_
        refine lv_icmp_ge (tgt := 61) hx hb dX12_isWord_25 (by decide) (fun c17 => ?_) (fun c17 => ?_)
        · have b18 : 4 ≤ y3_9.toInt := hw_ile c17
          refine lv_iload_n hx hb dX12_isWord_61 rfl (lv_at hl 1 rfl) ?_
          rcases (hw_z01 (x := y2_10) (by omega)) with w19 | w19
          · have b20 : y2_10.toInt = 0 := hw_ieq w19
            rw [w19]
            exact hw_iretR (v := 0) hx hb hr hlocks hQ rfl (Or.inl rfl) dX12_isWord_62
          · have b21 : y2_10.toInt = 1 := hw_ieq w19
            rw [w19]
            exact hw_iretR (v := 1) hx hb hr hlocks hQ rfl (Or.inr (⟨rfl, (by first | rfl | trivial | assumption | omega | (intros; first | rfl | assumption | omega | (exfalso; omega)))⟩)) dX12_isWord_62
        · have b22 : y3_9.toInt < 4 := hw_inle c17
          refine lv_iload_n hx hb dX12_isWord_28 rfl (lv_at hl 1 rfl) ?_
          refine lv_if_eq (tgt := 61) hx hb dX12_isWord_29 (by decide) (fun c23 => ?_) (fun c23 => ?_)
          · have b24 : y2_10.toInt = 0 := hw_ieq c23
            refine lv_iload_n hx hb dX12_isWord_61 rfl (lv_at hl 1 rfl) ?_
            rcases (hw_z01 (x := y2_10) (by omega)) with w25 | w25
            · have b26 : y2_10.toInt = 0 := hw_ieq w25
              rw [w25]
              exact hw_iretR (v := 0) hx hb hr hlocks hQ rfl (Or.inl rfl) dX12_isWord_62
            · have b27 : y2_10.toInt = 1 := hw_ieq w25
              rw [w25]
              exact hw_iretR (v := 1) hx hb hr hlocks hQ rfl (Or.inr (⟨rfl, (by first | rfl | trivial | assumption | omega | (intros; first | rfl | assumption | omega | (exfalso; omega)))⟩)) dX12_isWord_62
          · have b28 : y2_10.toInt ≠ 0 := hw_ine c23
            refine lv_aload_n hx hb dX12_isWord_32 rfl (lv_at hl 2 rfl) ?_
            refine hw_get hx hb fg_45_11 hK vm rfl dX12_isWord_33 ?_
            refine lv_aload_n hx hb dX12_isWord_36 rfl (lv_at hl 2 rfl) ?_
            refine hw_get hx hb fg_129_11 hK vm rfl dX12_isWord_37 ?_
            refine lv_iload_n hx hb dX12_isWord_40 rfl (lv_at hl 0 rfl) ?_
            refine lv_iadd hx hb dX12_isWord_41 ?_
            refine lv_topi (fun x29 e30 => ?_)
            have t31 : x29.toInt = fi_m.toInt + y3_9.toInt := by rw [e30]; exact hw_add rfl rfl (by omega) (by omega)
            obtain ⟨f32, v33⟩ := hH.a55 (hw_RM_15 Rm)
            refine hw_iald hx hb hK v33 (hw_in (by omega) (by omega)) dX12_isWord_42 ?_
            refine lv_topi (fun x35 e36 => ?_)
            refine lv_aload_n hx hb dX12_isWord_43 rfl (lv_at hl 3 rfl) ?_
            refine lv_iload_n hx hb dX12_isWord_44 rfl (lv_at hl 0 rfl) ?_
            obtain ⟨f37, v38⟩ := hH.a72 G1
            refine hw_iald hx hb hK v38 (hw_in (by omega) (by omega)) dX12_isWord_45 ?_
            refine lv_topi (fun x40 e41 => ?_)
            refine lv_icmp_ne (tgt := 53) hx hb dX12_isWord_46 (by decide) (fun c42 => ?_) (fun c42 => ?_)
            · have b43 : x35.toInt ≠ x40.toInt := hw_ine c42
              refine lv_iconst (v := 0) hx hb dX12_isWord_53 (by decide) ?_
              refine lv_istore_n (lv' := [(2, .int 0), (3, .int y3_9), (0, .ref h0), (1, .ref p1)]) hx hb dX12_isWord_54 rfl hl (by decide) rfl (fun ls hl => ?_)
              obtain ⟨x44, e45⟩ : ∃ y : Int32, y = y3_9 + 1 := ⟨_, rfl⟩
              refine lv_iinc (v := x44) (lv' := [(3, .int x44), (2, .int 0), (0, .ref h0), (1, .ref p1)]) hx hb dX12_isWord_55 hl (k := 1) rfl (by rw [e45]; rfl) (by decide) rfl (fun ls hl => ?_)
              have t46 : x44.toInt = y3_9.toInt + 1 := by rw [e45]; exact hw_add rfl rfl (by omega) (by omega)
              refine lv_goto (tgt := 22) hx hb dX12_isWord_58 (by decide) ?_
              exact ih22 x44 0 (by first | omega | omega) ⟨by first | decide | omega, by first | decide | omega⟩ ⟨by first | decide | omega, by first | decide | omega⟩ (by first | (left; rfl) | omega) _ (lv_sub hl [0, 1, 2, 3] rfl)
            · have b47 : x35.toInt = x40.toInt := hw_ieq c42
              refine lv_iconst (v := 1) hx hb dX12_isWord_49 (by decide) ?_
              refine lv_goto (tgt := 54) hx hb dX12_isWord_50 (by decide) ?_
              refine lv_istore_n (lv' := [(2, .int 1), (3, .int y3_9), (0, .ref h0), (1, .ref p1)]) hx hb dX12_isWord_54 rfl hl (by decide) rfl (fun ls hl => ?_)
              obtain ⟨x48, e49⟩ : ∃ y : Int32, y = y3_9 + 1 := ⟨_, rfl⟩
              refine lv_iinc (v := x48) (lv' := [(3, .int x48), (2, .int 1), (0, .ref h0), (1, .ref p1)]) hx hb dX12_isWord_55 hl (k := 1) rfl (by rw [e49]; rfl) (by decide) rfl (fun ls hl => ?_)
              have t50 : x48.toInt = y3_9.toInt + 1 := by rw [e49]; exact hw_add rfl rfl (by omega) (by omega)
              refine lv_goto (tgt := 22) hx hb dX12_isWord_58 (by decide) ?_
              exact ih22 x48 1 (by first | omega | omega) ⟨by first | decide | omega, by first | decide | omega⟩ ⟨by first | decide | omega, by first | decide | omega⟩ (by first | (left; rfl) | omega) _ (lv_sub hl [0, 1, 2, 3] rfl)
    exact L22 _ 0 0 (Nat.lt_succ_self _) ⟨by first | decide | omega, by first | decide | omega⟩ ⟨by first | decide | omega, by first | decide | omega⟩ (by first | (left; rfl) | omega) _ (lv_sub hl [0, 1, 2, 3] rfl)
  · have b51 : x1.toInt = 4 := hw_ieq c7
    refine lv_iconst (v := 1) hx hb dX12_isWord_14 (by decide) ?_
    refine lv_goto (tgt := 19) hx hb dX12_isWord_15 (by decide) ?_
    refine lv_istore_n (lv' := [(2, .int 1), (0, .ref h0), (1, .ref p1)]) hx hb dX12_isWord_19 rfl hl (by decide) rfl (fun ls hl => ?_)
    refine lv_iconst (v := 0) hx hb dX12_isWord_20 (by decide) ?_
    refine lv_istore_n (lv' := [(3, .int 0), (2, .int 1), (0, .ref h0), (1, .ref p1)]) hx hb dX12_isWord_21 rfl hl (by decide) rfl (fun ls hl => ?_)
    have L22 : ∀ (n56 : Nat) (y3_52 : Int32) (y2_53 : Int32) (hm : (4 - y3_52.toInt).toNat < n56) (g54 : 0 ≤ y2_53.toInt ∧ y2_53.toInt ≤ 1) (g55 : 0 ≤ y3_52.toInt ∧ y3_52.toInt ≤ 4) (inv22_0 : y2_53.toInt = 0 ∨ be_m.toInt - fi_m.toInt = 4) (ls : Array Slot) (hl : lv_has ls 4 [(3, .int y3_52), (2, .int y2_53), (0, .ref h0), (1, .ref p1)]), W p l e ({ frames := 0, cells := 0, slots := 0, locals := 0 } : Room) s m args below meth c s.heap [] 0 0 QQ (F0 m 22 ls []) := by
      intro n56
      induction n56 with
      | zero => intro y3_52 y2_53 hm; exact absurd hm (Nat.not_lt_zero _)
      | succ n56 ih22 =>
        intro y3_52 y2_53 hm g54 g55 inv22_0 ls hl
        refine lv_iload_n hx hb dX12_isWord_22 rfl (lv_at hl 0 rfl) ?_
        refine lv_aload_n hx hb dX12_isWord_23 rfl (lv_at hl 3 rfl) ?_
        obtain ⟨f57, v58⟩ := hH.a72 G1
        refine hw_alen (t := 0) (v := 4) hx hb hK v58 rfl rfl dX12_isWord_24 ?_
        refine lv_icmp_ge (tgt := 61) hx hb dX12_isWord_25 (by decide) (fun c60 => ?_) (fun c60 => ?_)
        · have b61 : 4 ≤ y3_52.toInt := hw_ile c60
          refine lv_iload_n hx hb dX12_isWord_61 rfl (lv_at hl 1 rfl) ?_
          rcases (hw_z01 (x := y2_53) (by omega)) with w62 | w62
          · have b63 : y2_53.toInt = 0 := hw_ieq w62
            rw [w62]
            exact hw_iretR (v := 0) hx hb hr hlocks hQ rfl (Or.inl rfl) dX12_isWord_62
          · have b64 : y2_53.toInt = 1 := hw_ieq w62
            rw [w62]
            exact hw_iretR (v := 1) hx hb hr hlocks hQ rfl (Or.inr (⟨rfl, (by first | rfl | trivial | assumption | omega | (intros; first | rfl | assumption | omega | (exfalso; omega)))⟩)) dX12_isWord_62
        · have b65 : y3_52.toInt < 4 := hw_inle c60
          refine lv_iload_n hx hb dX12_isWord_28 rfl (lv_at hl 1 rfl) ?_
          refine lv_if_eq (tgt := 61) hx hb dX12_isWord_29 (by decide) (fun c66 => ?_) (fun c66 => ?_)
          · have b67 : y2_53.toInt = 0 := hw_ieq c66
            refine lv_iload_n hx hb dX12_isWord_61 rfl (lv_at hl 1 rfl) ?_
            rcases (hw_z01 (x := y2_53) (by omega)) with w68 | w68
            · have b69 : y2_53.toInt = 0 := hw_ieq w68
              rw [w68]
              exact hw_iretR (v := 0) hx hb hr hlocks hQ rfl (Or.inl rfl) dX12_isWord_62
            · have b70 : y2_53.toInt = 1 := hw_ieq w68
              rw [w68]
              exact hw_iretR (v := 1) hx hb hr hlocks hQ rfl (Or.inr (⟨rfl, (by first | rfl | trivial | assumption | omega | (intros; first | rfl | assumption | omega | (exfalso; omega)))⟩)) dX12_isWord_62
          · have b71 : y2_53.toInt ≠ 0 := hw_ine c66
            refine lv_aload_n hx hb dX12_isWord_32 rfl (lv_at hl 2 rfl) ?_
            refine hw_get hx hb fg_45_11 hK vm rfl dX12_isWord_33 ?_
            refine lv_aload_n hx hb dX12_isWord_36 rfl (lv_at hl 2 rfl) ?_
            refine hw_get hx hb fg_129_11 hK vm rfl dX12_isWord_37 ?_
            refine lv_iload_n hx hb dX12_isWord_40 rfl (lv_at hl 0 rfl) ?_
            refine lv_iadd hx hb dX12_isWord_41 ?_
            refine lv_topi (fun x72 e73 => ?_)
            have t74 : x72.toInt = fi_m.toInt + y3_52.toInt := by rw [e73]; exact hw_add rfl rfl (by omega) (by omega)
            obtain ⟨f75, v76⟩ := hH.a55 (hw_RM_15 Rm)
            refine hw_iald hx hb hK v76 (hw_in (by omega) (by omega)) dX12_isWord_42 ?_
            refine lv_topi (fun x78 e79 => ?_)
            refine lv_aload_n hx hb dX12_isWord_43 rfl (lv_at hl 3 rfl) ?_
            refine lv_iload_n hx hb dX12_isWord_44 rfl (lv_at hl 0 rfl) ?_
            obtain ⟨f80, v81⟩ := hH.a72 G1
            refine hw_iald hx hb hK v81 (hw_in (by omega) (by omega)) dX12_isWord_45 ?_
            refine lv_topi (fun x83 e84 => ?_)
            refine lv_icmp_ne (tgt := 53) hx hb dX12_isWord_46 (by decide) (fun c85 => ?_) (fun c85 => ?_)
            · have b86 : x78.toInt ≠ x83.toInt := hw_ine c85
              refine lv_iconst (v := 0) hx hb dX12_isWord_53 (by decide) ?_
              refine lv_istore_n (lv' := [(2, .int 0), (3, .int y3_52), (0, .ref h0), (1, .ref p1)]) hx hb dX12_isWord_54 rfl hl (by decide) rfl (fun ls hl => ?_)
              obtain ⟨x87, e88⟩ : ∃ y : Int32, y = y3_52 + 1 := ⟨_, rfl⟩
              refine lv_iinc (v := x87) (lv' := [(3, .int x87), (2, .int 0), (0, .ref h0), (1, .ref p1)]) hx hb dX12_isWord_55 hl (k := 1) rfl (by rw [e88]; rfl) (by decide) rfl (fun ls hl => ?_)
              have t89 : x87.toInt = y3_52.toInt + 1 := by rw [e88]; exact hw_add rfl rfl (by omega) (by omega)
              refine lv_goto (tgt := 22) hx hb dX12_isWord_58 (by decide) ?_
              exact ih22 x87 0 (by first | omega | omega) ⟨by first | decide | omega, by first | decide | omega⟩ ⟨by first | decide | omega, by first | decide | omega⟩ (by first | (left; rfl) | omega) _ (lv_sub hl [0, 1, 2, 3] rfl)
            · have b90 : x78.toInt = x83.toInt := hw_ieq c85
              refine lv_iconst (v := 1) hx hb dX12_isWord_49 (by decide) ?_
              refine lv_goto (tgt := 54) hx hb dX12_isWord_50 (by decide) ?_
              refine lv_istore_n (lv' := [(2, .int 1), (3, .int y3_52), (0, .ref h0), (1, .ref p1)]) hx hb dX12_isWord_54 rfl hl (by decide) rfl (fun ls hl => ?_)
              obtain ⟨x91, e92⟩ : ∃ y : Int32, y = y3_52 + 1 := ⟨_, rfl⟩
              refine lv_iinc (v := x91) (lv' := [(3, .int x91), (2, .int 1), (0, .ref h0), (1, .ref p1)]) hx hb dX12_isWord_55 hl (k := 1) rfl (by rw [e92]; rfl) (by decide) rfl (fun ls hl => ?_)
              have t93 : x91.toInt = y3_52.toInt + 1 := by rw [e92]; exact hw_add rfl rfl (by omega) (by omega)
              refine lv_goto (tgt := 22) hx hb dX12_isWord_58 (by decide) ?_
              exact ih22 x91 1 (by first | omega | omega) ⟨by first | decide | omega, by first | decide | omega⟩ ⟨by first | decide | omega, by first | decide | omega⟩ (by first | (left; rfl) | omega) _ (lv_sub hl [0, 1, 2, 3] rfl)
    exact L22 _ 0 1 (Nat.lt_succ_self _) ⟨by first | decide | omega, by first | decide | omega⟩ ⟨by first | decide | omega, by first | decide | omega⟩ (by first | (left; rfl) | omega) _ (lv_sub hl [0, 1, 2, 3] rfl)

set_option maxHeartbeats 4000000 in
set_option maxRecDepth 100000 in
theorem k_X12_isWord73 (l : Launch) (D : hw_D) (G : Nat → Nat) (h0 : Nat) (p1 : Nat) (sz : Nat) (rm : Nat → Nat) (ud_m ky_m lo_m wk_m dk_m ln_m sm_m fi_m be_m rk_m rl_m rw_m cl_m dg_m : Int32) (G0 : G h0 = 9) (G1 : G p1 = 73) (Rm : hw_RM G rm) (gud_m : 0 ≤ ud_m.toInt ∧ ud_m.toInt ≤ 8) (gky_m : 0 ≤ ky_m.toInt ∧ ky_m.toInt ≤ 7) (glo_m : 0 ≤ lo_m.toInt ∧ lo_m.toInt ≤ 7) (gwk_m : 0 ≤ wk_m.toInt ∧ wk_m.toInt ≤ 3) (gln_m : 0 ≤ ln_m.toInt ∧ ln_m.toInt ≤ 200) (gsm_m : 0 ≤ sm_m.toInt ∧ sm_m.toInt ≤ 6) (gfi_m : 0 ≤ fi_m.toInt ∧ fi_m.toInt ≤ 200) (gbe_m : 0 ≤ be_m.toInt ∧ be_m.toInt ≤ 200) (grk_m : 0 ≤ rk_m.toInt ∧ rk_m.toInt ≤ 7) (grl_m : 0 ≤ rl_m.toInt ∧ rl_m.toInt ≤ 7) (grw_m : 0 ≤ rw_m.toInt ∧ rw_m.toInt ≤ 3) (gdg_m : 0 ≤ dg_m.toInt ∧ dg_m.toInt ≤ 1) : Met l yX12_isWord wsX12_isWord ({ frames := 0, cells := 0, slots := 0, locals := 0 } : Room) (hw_PC D G [.ref h0, .ref p1] sz (fun H => va_at D.1 vwCl (h0, .inr (11, hw_LM rm ud_m ky_m lo_m wk_m dk_m ln_m sm_m fi_m be_m rk_m rl_m rw_m cl_m dg_m)) H)) (hw_QR (fun v => (v = .int 0) ∨ (v = .int 1 ∧ be_m.toInt - fi_m.toInt = 4))) 0 0 (fun _ => False) := by
  refine hw_met (cc := cX12_isWord) (maxL := 4) (ret := (some .boolean)) (plainFor_of_name (by decide)) rfl (Nat.le_of_ble_eq_true rfl) ?_
  intro p e s m args below meth c QQ ls hsz hx hb hml hr hts hown hlocks hnm hH hK hST hF hQ hl
  subst hsz
  have hS : va_S (hw_AW G [] s.heap.size) s.heap s.heap [] := va_S.rf
  have vm := hF
  have hl : lv_has ls 4 [(0, .ref h0), (1, .ref p1)] := hl
  have u_11 : ∀ w ∈ u_ws RX12 TX12 45, w.before args s = true := fun w hw => hts w ((by decide +kernel : ∀ w ∈ u_ws RX12 TX12 45, w ∈ wsX12_isWord) w hw)
  have fg_126_11 : hw_FG s args m 126 11 21 := ⟨RX12, "WardWalkersModel", RX12, TX12, 45, u_11, hown, rfl, by decide, (hts (.fieldLink RX12 126 "WardWalkersModel" "behind" "I") (by decide +kernel)), (fun _ h9 => h9)⟩
  have fg_129_11 : hw_FG s args m 129 11 20 := ⟨RX12, "WardWalkersModel", RX12, TX12, 45, u_11, hown, rfl, by decide, (hts (.fieldLink RX12 129 "WardWalkersModel" "first" "I") (by decide +kernel)), (fun _ h9 => h9)⟩
  have fg_45_11 : hw_FG s args m 45 11 15 := ⟨RX12, "WardWalkersModel", RX12, TX12, 45, u_11, hown, rfl, by decide, (hts (.fieldLink RX12 45 "WardWalkersModel" "text" "[I") (by decide +kernel)), (fun _ h9 => h9)⟩
  refine lv_aload_n hx hb dX12_isWord_0 rfl (lv_at hl 0 rfl) ?_
  refine hw_get hx hb fg_126_11 hK vm rfl dX12_isWord_1 ?_
  refine lv_aload_n hx hb dX12_isWord_4 rfl (lv_at hl 0 rfl) ?_
  refine hw_get hx hb fg_129_11 hK vm rfl dX12_isWord_5 ?_
  refine lv_isub hx hb dX12_isWord_8 ?_
  refine lv_topi (fun x1 e2 => ?_)
  have t3 : x1.toInt = be_m.toInt - fi_m.toInt := by rw [e2]; exact hw_sub rfl rfl (by omega) (by omega)
  refine lv_aload_n hx hb dX12_isWord_9 rfl (lv_at hl 1 rfl) ?_
  obtain ⟨f4, v5⟩ := hH.a73 G1
  refine hw_alen (t := 0) (v := 4) hx hb hK v5 rfl rfl dX12_isWord_10 ?_
  refine lv_icmp_ne (tgt := 18) hx hb dX12_isWord_11 (by decide) (fun c7 => ?_) (fun c7 => ?_)
  · have b8 : x1.toInt ≠ 4 := hw_ine c7
    refine lv_iconst (v := 0) hx hb dX12_isWord_18 (by decide) ?_
    refine lv_istore_n (lv' := [(2, .int 0), (0, .ref h0), (1, .ref p1)]) hx hb dX12_isWord_19 rfl hl (by decide) rfl (fun ls hl => ?_)
    refine lv_iconst (v := 0) hx hb dX12_isWord_20 (by decide) ?_
    refine lv_istore_n (lv' := [(3, .int 0), (2, .int 0), (0, .ref h0), (1, .ref p1)]) hx hb dX12_isWord_21 rfl hl (by decide) rfl (fun ls hl => ?_)
    have L22 : ∀ (n13 : Nat) (y3_9 : Int32) (y2_10 : Int32) (hm : (4 - y3_9.toInt).toNat < n13) (g11 : 0 ≤ y2_10.toInt ∧ y2_10.toInt ≤ 1) (g12 : 0 ≤ y3_9.toInt ∧ y3_9.toInt ≤ 4) (inv22_0 : y2_10.toInt = 0 ∨ be_m.toInt - fi_m.toInt = 4) (ls : Array Slot) (hl : lv_has ls 4 [(3, .int y3_9), (2, .int y2_10), (0, .ref h0), (1, .ref p1)]), W p l e ({ frames := 0, cells := 0, slots := 0, locals := 0 } : Room) s m args below meth c s.heap [] 0 0 QQ (F0 m 22 ls []) := by
      intro n13
      induction n13 with
      | zero => intro y3_9 y2_10 hm; exact absurd hm (Nat.not_lt_zero _)
      | succ n13 ih22 =>
        intro y3_9 y2_10 hm g11 g12 inv22_0 ls hl
        refine lv_iload_n hx hb dX12_isWord_22 rfl (lv_at hl 0 rfl) ?_
        refine lv_aload_n hx hb dX12_isWord_23 rfl (lv_at hl 3 rfl) ?_
        obtain ⟨f14, v15⟩ := hH.a73 G1
        refine hw_alen (t := 0) (v := 4) hx hb hK v15 rfl rfl dX12_isWord_24 ?_
        refine lv_icmp_ge (tgt := 61) hx hb dX12_isWord_25 (by decide) (fun c17 => ?_) (fun c17 => ?_)
        · have b18 : 4 ≤ y3_9.toInt := hw_ile c17
          refine lv_iload_n hx hb dX12_isWord_61 rfl (lv_at hl 1 rfl) ?_
          rcases (hw_z01 (x := y2_10) (by omega)) with w19 | w19
          · have b20 : y2_10.toInt = 0 := hw_ieq w19
            rw [w19]
            exact hw_iretR (v := 0) hx hb hr hlocks hQ rfl (Or.inl rfl) dX12_isWord_62
          · have b21 : y2_10.toInt = 1 := hw_ieq w19
            rw [w19]
            exact hw_iretR (v := 1) hx hb hr hlocks hQ rfl (Or.inr (⟨rfl, (by first | rfl | trivial | assumption | omega | (intros; first | rfl | assumption | omega | (exfalso; omega)))⟩)) dX12_isWord_62
        · have b22 : y3_9.toInt < 4 := hw_inle c17
          refine lv_iload_n hx hb dX12_isWord_28 rfl (lv_at hl 1 rfl) ?_
          refine lv_if_eq (tgt := 61) hx hb dX12_isWord_29 (by decide) (fun c23 => ?_) (fun c23 => ?_)
          · have b24 : y2_10.toInt = 0 := hw_ieq c23
            refine lv_iload_n hx hb dX12_isWord_61 rfl (lv_at hl 1 rfl) ?_
            rcases (hw_z01 (x := y2_10) (by omega)) with w25 | w25
            · have b26 : y2_10.toInt = 0 := hw_ieq w25
              rw [w25]
              exact hw_iretR (v := 0) hx hb hr hlocks hQ rfl (Or.inl rfl) dX12_isWord_62
            · have b27 : y2_10.toInt = 1 := hw_ieq w25
              rw [w25]
              exact hw_iretR (v := 1) hx hb hr hlocks hQ rfl (Or.inr (⟨rfl, (by first | rfl | trivial | assumption | omega | (intros; first | rfl | assumption | omega | (exfalso; omega)))⟩)) dX12_isWord_62
          · have b28 : y2_10.toInt ≠ 0 := hw_ine c23
            refine lv_aload_n hx hb dX12_isWord_32 rfl (lv_at hl 2 rfl) ?_
            refine hw_get hx hb fg_45_11 hK vm rfl dX12_isWord_33 ?_
            refine lv_aload_n hx hb dX12_isWord_36 rfl (lv_at hl 2 rfl) ?_
            refine hw_get hx hb fg_129_11 hK vm rfl dX12_isWord_37 ?_
            refine lv_iload_n hx hb dX12_isWord_40 rfl (lv_at hl 0 rfl) ?_
            refine lv_iadd hx hb dX12_isWord_41 ?_
            refine lv_topi (fun x29 e30 => ?_)
            have t31 : x29.toInt = fi_m.toInt + y3_9.toInt := by rw [e30]; exact hw_add rfl rfl (by omega) (by omega)
            obtain ⟨f32, v33⟩ := hH.a55 (hw_RM_15 Rm)
            refine hw_iald hx hb hK v33 (hw_in (by omega) (by omega)) dX12_isWord_42 ?_
            refine lv_topi (fun x35 e36 => ?_)
            refine lv_aload_n hx hb dX12_isWord_43 rfl (lv_at hl 3 rfl) ?_
            refine lv_iload_n hx hb dX12_isWord_44 rfl (lv_at hl 0 rfl) ?_
            obtain ⟨f37, v38⟩ := hH.a73 G1
            refine hw_iald hx hb hK v38 (hw_in (by omega) (by omega)) dX12_isWord_45 ?_
            refine lv_topi (fun x40 e41 => ?_)
            refine lv_icmp_ne (tgt := 53) hx hb dX12_isWord_46 (by decide) (fun c42 => ?_) (fun c42 => ?_)
            · have b43 : x35.toInt ≠ x40.toInt := hw_ine c42
              refine lv_iconst (v := 0) hx hb dX12_isWord_53 (by decide) ?_
              refine lv_istore_n (lv' := [(2, .int 0), (3, .int y3_9), (0, .ref h0), (1, .ref p1)]) hx hb dX12_isWord_54 rfl hl (by decide) rfl (fun ls hl => ?_)
              obtain ⟨x44, e45⟩ : ∃ y : Int32, y = y3_9 + 1 := ⟨_, rfl⟩
              refine lv_iinc (v := x44) (lv' := [(3, .int x44), (2, .int 0), (0, .ref h0), (1, .ref p1)]) hx hb dX12_isWord_55 hl (k := 1) rfl (by rw [e45]; rfl) (by decide) rfl (fun ls hl => ?_)
              have t46 : x44.toInt = y3_9.toInt + 1 := by rw [e45]; exact hw_add rfl rfl (by omega) (by omega)
              refine lv_goto (tgt := 22) hx hb dX12_isWord_58 (by decide) ?_
              exact ih22 x44 0 (by first | omega | omega) ⟨by first | decide | omega, by first | decide | omega⟩ ⟨by first | decide | omega, by first | decide | omega⟩ (by first | (left; rfl) | omega) _ (lv_sub hl [0, 1, 2, 3] rfl)
            · have b47 : x35.toInt = x40.toInt := hw_ieq c42
              refine lv_iconst (v := 1) hx hb dX12_isWord_49 (by decide) ?_
              refine lv_goto (tgt := 54) hx hb dX12_isWord_50 (by decide) ?_
              refine lv_istore_n (lv' := [(2, .int 1), (3, .int y3_9), (0, .ref h0), (1, .ref p1)]) hx hb dX12_isWord_54 rfl hl (by decide) rfl (fun ls hl => ?_)
              obtain ⟨x48, e49⟩ : ∃ y : Int32, y = y3_9 + 1 := ⟨_, rfl⟩
              refine lv_iinc (v := x48) (lv' := [(3, .int x48), (2, .int 1), (0, .ref h0), (1, .ref p1)]) hx hb dX12_isWord_55 hl (k := 1) rfl (by rw [e49]; rfl) (by decide) rfl (fun ls hl => ?_)
              have t50 : x48.toInt = y3_9.toInt + 1 := by rw [e49]; exact hw_add rfl rfl (by omega) (by omega)
              refine lv_goto (tgt := 22) hx hb dX12_isWord_58 (by decide) ?_
              exact ih22 x48 1 (by first | omega | omega) ⟨by first | decide | omega, by first | decide | omega⟩ ⟨by first | decide | omega, by first | decide | omega⟩ (by first | (left; rfl) | omega) _ (lv_sub hl [0, 1, 2, 3] rfl)
    exact L22 _ 0 0 (Nat.lt_succ_self _) ⟨by first | decide | omega, by first | decide | omega⟩ ⟨by first | decide | omega, by first | decide | omega⟩ (by first | (left; rfl) | omega) _ (lv_sub hl [0, 1, 2, 3] rfl)
  · have b51 : x1.toInt = 4 := hw_ieq c7
    refine lv_iconst (v := 1) hx hb dX12_isWord_14 (by decide) ?_
    refine lv_goto (tgt := 19) hx hb dX12_isWord_15 (by decide) ?_
    refine lv_istore_n (lv' := [(2, .int 1), (0, .ref h0), (1, .ref p1)]) hx hb dX12_isWord_19 rfl hl (by decide) rfl (fun ls hl => ?_)
    refine lv_iconst (v := 0) hx hb dX12_isWord_20 (by decide) ?_
    refine lv_istore_n (lv' := [(3, .int 0), (2, .int 1), (0, .ref h0), (1, .ref p1)]) hx hb dX12_isWord_21 rfl hl (by decide) rfl (fun ls hl => ?_)
    have L22 : ∀ (n56 : Nat) (y3_52 : Int32) (y2_53 : Int32) (hm : (4 - y3_52.toInt).toNat < n56) (g54 : 0 ≤ y2_53.toInt ∧ y2_53.toInt ≤ 1) (g55 : 0 ≤ y3_52.toInt ∧ y3_52.toInt ≤ 4) (inv22_0 : y2_53.toInt = 0 ∨ be_m.toInt - fi_m.toInt = 4) (ls : Array Slot) (hl : lv_has ls 4 [(3, .int y3_52), (2, .int y2_53), (0, .ref h0), (1, .ref p1)]), W p l e ({ frames := 0, cells := 0, slots := 0, locals := 0 } : Room) s m args below meth c s.heap [] 0 0 QQ (F0 m 22 ls []) := by
      intro n56
      induction n56 with
      | zero => intro y3_52 y2_53 hm; exact absurd hm (Nat.not_lt_zero _)
      | succ n56 ih22 =>
        intro y3_52 y2_53 hm g54 g55 inv22_0 ls hl
        refine lv_iload_n hx hb dX12_isWord_22 rfl (lv_at hl 0 rfl) ?_
        refine lv_aload_n hx hb dX12_isWord_23 rfl (lv_at hl 3 rfl) ?_
        obtain ⟨f57, v58⟩ := hH.a73 G1
        refine hw_alen (t := 0) (v := 4) hx hb hK v58 rfl rfl dX12_isWord_24 ?_
        refine lv_icmp_ge (tgt := 61) hx hb dX12_isWord_25 (by decide) (fun c60 => ?_) (fun c60 => ?_)
        · have b61 : 4 ≤ y3_52.toInt := hw_ile c60
          refine lv_iload_n hx hb dX12_isWord_61 rfl (lv_at hl 1 rfl) ?_
          rcases (hw_z01 (x := y2_53) (by omega)) with w62 | w62
          · have b63 : y2_53.toInt = 0 := hw_ieq w62
            rw [w62]
            exact hw_iretR (v := 0) hx hb hr hlocks hQ rfl (Or.inl rfl) dX12_isWord_62
          · have b64 : y2_53.toInt = 1 := hw_ieq w62
            rw [w62]
            exact hw_iretR (v := 1) hx hb hr hlocks hQ rfl (Or.inr (⟨rfl, (by first | rfl | trivial | assumption | omega | (intros; first | rfl | assumption | omega | (exfalso; omega)))⟩)) dX12_isWord_62
        · have b65 : y3_52.toInt < 4 := hw_inle c60
          refine lv_iload_n hx hb dX12_isWord_28 rfl (lv_at hl 1 rfl) ?_
          refine lv_if_eq (tgt := 61) hx hb dX12_isWord_29 (by decide) (fun c66 => ?_) (fun c66 => ?_)
          · have b67 : y2_53.toInt = 0 := hw_ieq c66
            refine lv_iload_n hx hb dX12_isWord_61 rfl (lv_at hl 1 rfl) ?_
            rcases (hw_z01 (x := y2_53) (by omega)) with w68 | w68
            · have b69 : y2_53.toInt = 0 := hw_ieq w68
              rw [w68]
              exact hw_iretR (v := 0) hx hb hr hlocks hQ rfl (Or.inl rfl) dX12_isWord_62
            · have b70 : y2_53.toInt = 1 := hw_ieq w68
              rw [w68]
              exact hw_iretR (v := 1) hx hb hr hlocks hQ rfl (Or.inr (⟨rfl, (by first | rfl | trivial | assumption | omega | (intros; first | rfl | assumption | omega | (exfalso; omega)))⟩)) dX12_isWord_62
          · have b71 : y2_53.toInt ≠ 0 := hw_ine c66
            refine lv_aload_n hx hb dX12_isWord_32 rfl (lv_at hl 2 rfl) ?_
            refine hw_get hx hb fg_45_11 hK vm rfl dX12_isWord_33 ?_
            refine lv_aload_n hx hb dX12_isWord_36 rfl (lv_at hl 2 rfl) ?_
            refine hw_get hx hb fg_129_11 hK vm rfl dX12_isWord_37 ?_
            refine lv_iload_n hx hb dX12_isWord_40 rfl (lv_at hl 0 rfl) ?_
            refine lv_iadd hx hb dX12_isWord_41 ?_
            refine lv_topi (fun x72 e73 => ?_)
            have t74 : x72.toInt = fi_m.toInt + y3_52.toInt := by rw [e73]; exact hw_add rfl rfl (by omega) (by omega)
            obtain ⟨f75, v76⟩ := hH.a55 (hw_RM_15 Rm)
            refine hw_iald hx hb hK v76 (hw_in (by omega) (by omega)) dX12_isWord_42 ?_
            refine lv_topi (fun x78 e79 => ?_)
            refine lv_aload_n hx hb dX12_isWord_43 rfl (lv_at hl 3 rfl) ?_
            refine lv_iload_n hx hb dX12_isWord_44 rfl (lv_at hl 0 rfl) ?_
            obtain ⟨f80, v81⟩ := hH.a73 G1
            refine hw_iald hx hb hK v81 (hw_in (by omega) (by omega)) dX12_isWord_45 ?_
            refine lv_topi (fun x83 e84 => ?_)
            refine lv_icmp_ne (tgt := 53) hx hb dX12_isWord_46 (by decide) (fun c85 => ?_) (fun c85 => ?_)
            · have b86 : x78.toInt ≠ x83.toInt := hw_ine c85
              refine lv_iconst (v := 0) hx hb dX12_isWord_53 (by decide) ?_
              refine lv_istore_n (lv' := [(2, .int 0), (3, .int y3_52), (0, .ref h0), (1, .ref p1)]) hx hb dX12_isWord_54 rfl hl (by decide) rfl (fun ls hl => ?_)
              obtain ⟨x87, e88⟩ : ∃ y : Int32, y = y3_52 + 1 := ⟨_, rfl⟩
              refine lv_iinc (v := x87) (lv' := [(3, .int x87), (2, .int 0), (0, .ref h0), (1, .ref p1)]) hx hb dX12_isWord_55 hl (k := 1) rfl (by rw [e88]; rfl) (by decide) rfl (fun ls hl => ?_)
              have t89 : x87.toInt = y3_52.toInt + 1 := by rw [e88]; exact hw_add rfl rfl (by omega) (by omega)
              refine lv_goto (tgt := 22) hx hb dX12_isWord_58 (by decide) ?_
              exact ih22 x87 0 (by first | omega | omega) ⟨by first | decide | omega, by first | decide | omega⟩ ⟨by first | decide | omega, by first | decide | omega⟩ (by first | (left; rfl) | omega) _ (lv_sub hl [0, 1, 2, 3] rfl)
            · have b90 : x78.toInt = x83.toInt := hw_ieq c85
              refine lv_iconst (v := 1) hx hb dX12_isWord_49 (by decide) ?_
              refine lv_goto (tgt := 54) hx hb dX12_isWord_50 (by decide) ?_
              refine lv_istore_n (lv' := [(2, .int 1), (3, .int y3_52), (0, .ref h0), (1, .ref p1)]) hx hb dX12_isWord_54 rfl hl (by decide) rfl (fun ls hl => ?_)
              obtain ⟨x91, e92⟩ : ∃ y : Int32, y = y3_52 + 1 := ⟨_, rfl⟩
              refine lv_iinc (v := x91) (lv' := [(3, .int x91), (2, .int 1), (0, .ref h0), (1, .ref p1)]) hx hb dX12_isWord_55 hl (k := 1) rfl (by rw [e92]; rfl) (by decide) rfl (fun ls hl => ?_)
              have t93 : x91.toInt = y3_52.toInt + 1 := by rw [e92]; exact hw_add rfl rfl (by omega) (by omega)
              refine lv_goto (tgt := 22) hx hb dX12_isWord_58 (by decide) ?_
              exact ih22 x91 1 (by first | omega | omega) ⟨by first | decide | omega, by first | decide | omega⟩ ⟨by first | decide | omega, by first | decide | omega⟩ (by first | (left; rfl) | omega) _ (lv_sub hl [0, 1, 2, 3] rfl)
    exact L22 _ 0 1 (Nat.lt_succ_self _) ⟨by first | decide | omega, by first | decide | omega⟩ ⟨by first | decide | omega, by first | decide | omega⟩ (by first | (left; rfl) | omega) _ (lv_sub hl [0, 1, 2, 3] rfl)

set_option maxHeartbeats 4000000 in
set_option maxRecDepth 100000 in
theorem k_X12_isWord74 (l : Launch) (D : hw_D) (G : Nat → Nat) (h0 : Nat) (p1 : Nat) (sz : Nat) (rm : Nat → Nat) (ud_m ky_m lo_m wk_m dk_m ln_m sm_m fi_m be_m rk_m rl_m rw_m cl_m dg_m : Int32) (G0 : G h0 = 9) (G1 : G p1 = 74) (Rm : hw_RM G rm) (gud_m : 0 ≤ ud_m.toInt ∧ ud_m.toInt ≤ 8) (gky_m : 0 ≤ ky_m.toInt ∧ ky_m.toInt ≤ 7) (glo_m : 0 ≤ lo_m.toInt ∧ lo_m.toInt ≤ 7) (gwk_m : 0 ≤ wk_m.toInt ∧ wk_m.toInt ≤ 3) (gln_m : 0 ≤ ln_m.toInt ∧ ln_m.toInt ≤ 200) (gsm_m : 0 ≤ sm_m.toInt ∧ sm_m.toInt ≤ 6) (gfi_m : 0 ≤ fi_m.toInt ∧ fi_m.toInt ≤ 200) (gbe_m : 0 ≤ be_m.toInt ∧ be_m.toInt ≤ 200) (grk_m : 0 ≤ rk_m.toInt ∧ rk_m.toInt ≤ 7) (grl_m : 0 ≤ rl_m.toInt ∧ rl_m.toInt ≤ 7) (grw_m : 0 ≤ rw_m.toInt ∧ rw_m.toInt ≤ 3) (gdg_m : 0 ≤ dg_m.toInt ∧ dg_m.toInt ≤ 1) : Met l yX12_isWord wsX12_isWord ({ frames := 0, cells := 0, slots := 0, locals := 0 } : Room) (hw_PC D G [.ref h0, .ref p1] sz (fun H => va_at D.1 vwCl (h0, .inr (11, hw_LM rm ud_m ky_m lo_m wk_m dk_m ln_m sm_m fi_m be_m rk_m rl_m rw_m cl_m dg_m)) H)) (hw_QR (fun v => (v = .int 0) ∨ (v = .int 1 ∧ be_m.toInt - fi_m.toInt = 6))) 0 0 (fun _ => False) := by
  refine hw_met (cc := cX12_isWord) (maxL := 4) (ret := (some .boolean)) (plainFor_of_name (by decide)) rfl (Nat.le_of_ble_eq_true rfl) ?_
  intro p e s m args below meth c QQ ls hsz hx hb hml hr hts hown hlocks hnm hH hK hST hF hQ hl
  subst hsz
  have hS : va_S (hw_AW G [] s.heap.size) s.heap s.heap [] := va_S.rf
  have vm := hF
  have hl : lv_has ls 4 [(0, .ref h0), (1, .ref p1)] := hl
  have u_11 : ∀ w ∈ u_ws RX12 TX12 45, w.before args s = true := fun w hw => hts w ((by decide +kernel : ∀ w ∈ u_ws RX12 TX12 45, w ∈ wsX12_isWord) w hw)
  have fg_126_11 : hw_FG s args m 126 11 21 := ⟨RX12, "WardWalkersModel", RX12, TX12, 45, u_11, hown, rfl, by decide, (hts (.fieldLink RX12 126 "WardWalkersModel" "behind" "I") (by decide +kernel)), (fun _ h9 => h9)⟩
  have fg_129_11 : hw_FG s args m 129 11 20 := ⟨RX12, "WardWalkersModel", RX12, TX12, 45, u_11, hown, rfl, by decide, (hts (.fieldLink RX12 129 "WardWalkersModel" "first" "I") (by decide +kernel)), (fun _ h9 => h9)⟩
  have fg_45_11 : hw_FG s args m 45 11 15 := ⟨RX12, "WardWalkersModel", RX12, TX12, 45, u_11, hown, rfl, by decide, (hts (.fieldLink RX12 45 "WardWalkersModel" "text" "[I") (by decide +kernel)), (fun _ h9 => h9)⟩
  refine lv_aload_n hx hb dX12_isWord_0 rfl (lv_at hl 0 rfl) ?_
  refine hw_get hx hb fg_126_11 hK vm rfl dX12_isWord_1 ?_
  refine lv_aload_n hx hb dX12_isWord_4 rfl (lv_at hl 0 rfl) ?_
  refine hw_get hx hb fg_129_11 hK vm rfl dX12_isWord_5 ?_
  refine lv_isub hx hb dX12_isWord_8 ?_
  refine lv_topi (fun x1 e2 => ?_)
  have t3 : x1.toInt = be_m.toInt - fi_m.toInt := by rw [e2]; exact hw_sub rfl rfl (by omega) (by omega)
  refine lv_aload_n hx hb dX12_isWord_9 rfl (lv_at hl 1 rfl) ?_
  obtain ⟨f4, v5⟩ := hH.a74 G1
  refine hw_alen (t := 0) (v := 6) hx hb hK v5 rfl rfl dX12_isWord_10 ?_
  refine lv_icmp_ne (tgt := 18) hx hb dX12_isWord_11 (by decide) (fun c7 => ?_) (fun c7 => ?_)
  · have b8 : x1.toInt ≠ 6 := hw_ine c7
    refine lv_iconst (v := 0) hx hb dX12_isWord_18 (by decide) ?_
    refine lv_istore_n (lv' := [(2, .int 0), (0, .ref h0), (1, .ref p1)]) hx hb dX12_isWord_19 rfl hl (by decide) rfl (fun ls hl => ?_)
    refine lv_iconst (v := 0) hx hb dX12_isWord_20 (by decide) ?_
    refine lv_istore_n (lv' := [(3, .int 0), (2, .int 0), (0, .ref h0), (1, .ref p1)]) hx hb dX12_isWord_21 rfl hl (by decide) rfl (fun ls hl => ?_)
    have L22 : ∀ (n13 : Nat) (y3_9 : Int32) (y2_10 : Int32) (hm : (6 - y3_9.toInt).toNat < n13) (g11 : 0 ≤ y2_10.toInt ∧ y2_10.toInt ≤ 1) (g12 : 0 ≤ y3_9.toInt ∧ y3_9.toInt ≤ 6) (inv22_0 : y2_10.toInt = 0 ∨ be_m.toInt - fi_m.toInt = 6) (ls : Array Slot) (hl : lv_has ls 4 [(3, .int y3_9), (2, .int y2_10), (0, .ref h0), (1, .ref p1)]), W p l e ({ frames := 0, cells := 0, slots := 0, locals := 0 } : Room) s m args below meth c s.heap [] 0 0 QQ (F0 m 22 ls []) := by
      intro n13
      induction n13 with
      | zero => intro y3_9 y2_10 hm; exact absurd hm (Nat.not_lt_zero _)
      | succ n13 ih22 =>
        intro y3_9 y2_10 hm g11 g12 inv22_0 ls hl
        refine lv_iload_n hx hb dX12_isWord_22 rfl (lv_at hl 0 rfl) ?_
        refine lv_aload_n hx hb dX12_isWord_23 rfl (lv_at hl 3 rfl) ?_
        obtain ⟨f14, v15⟩ := hH.a74 G1
        refine hw_alen (t := 0) (v := 6) hx hb hK v15 rfl rfl dX12_isWord_24 ?_
        refine lv_icmp_ge (tgt := 61) hx hb dX12_isWord_25 (by decide) (fun c17 => ?_) (fun c17 => ?_)
        · have b18 : 6 ≤ y3_9.toInt := hw_ile c17
          refine lv_iload_n hx hb dX12_isWord_61 rfl (lv_at hl 1 rfl) ?_
          rcases (hw_z01 (x := y2_10) (by omega)) with w19 | w19
          · have b20 : y2_10.toInt = 0 := hw_ieq w19
            rw [w19]
            exact hw_iretR (v := 0) hx hb hr hlocks hQ rfl (Or.inl rfl) dX12_isWord_62
          · have b21 : y2_10.toInt = 1 := hw_ieq w19
            rw [w19]
            exact hw_iretR (v := 1) hx hb hr hlocks hQ rfl (Or.inr (⟨rfl, (by first | rfl | trivial | assumption | omega | (intros; first | rfl | assumption | omega | (exfalso; omega)))⟩)) dX12_isWord_62
        · have b22 : y3_9.toInt < 6 := hw_inle c17
          refine lv_iload_n hx hb dX12_isWord_28 rfl (lv_at hl 1 rfl) ?_
          refine lv_if_eq (tgt := 61) hx hb dX12_isWord_29 (by decide) (fun c23 => ?_) (fun c23 => ?_)
          · have b24 : y2_10.toInt = 0 := hw_ieq c23
            refine lv_iload_n hx hb dX12_isWord_61 rfl (lv_at hl 1 rfl) ?_
            rcases (hw_z01 (x := y2_10) (by omega)) with w25 | w25
            · have b26 : y2_10.toInt = 0 := hw_ieq w25
              rw [w25]
              exact hw_iretR (v := 0) hx hb hr hlocks hQ rfl (Or.inl rfl) dX12_isWord_62
            · have b27 : y2_10.toInt = 1 := hw_ieq w25
              rw [w25]
              exact hw_iretR (v := 1) hx hb hr hlocks hQ rfl (Or.inr (⟨rfl, (by first | rfl | trivial | assumption | omega | (intros; first | rfl | assumption | omega | (exfalso; omega)))⟩)) dX12_isWord_62
          · have b28 : y2_10.toInt ≠ 0 := hw_ine c23
            refine lv_aload_n hx hb dX12_isWord_32 rfl (lv_at hl 2 rfl) ?_
            refine hw_get hx hb fg_45_11 hK vm rfl dX12_isWord_33 ?_
            refine lv_aload_n hx hb dX12_isWord_36 rfl (lv_at hl 2 rfl) ?_
            refine hw_get hx hb fg_129_11 hK vm rfl dX12_isWord_37 ?_
            refine lv_iload_n hx hb dX12_isWord_40 rfl (lv_at hl 0 rfl) ?_
            refine lv_iadd hx hb dX12_isWord_41 ?_
            refine lv_topi (fun x29 e30 => ?_)
            have t31 : x29.toInt = fi_m.toInt + y3_9.toInt := by rw [e30]; exact hw_add rfl rfl (by omega) (by omega)
            obtain ⟨f32, v33⟩ := hH.a55 (hw_RM_15 Rm)
            refine hw_iald hx hb hK v33 (hw_in (by omega) (by omega)) dX12_isWord_42 ?_
            refine lv_topi (fun x35 e36 => ?_)
            refine lv_aload_n hx hb dX12_isWord_43 rfl (lv_at hl 3 rfl) ?_
            refine lv_iload_n hx hb dX12_isWord_44 rfl (lv_at hl 0 rfl) ?_
            obtain ⟨f37, v38⟩ := hH.a74 G1
            refine hw_iald hx hb hK v38 (hw_in (by omega) (by omega)) dX12_isWord_45 ?_
            refine lv_topi (fun x40 e41 => ?_)
            refine lv_icmp_ne (tgt := 53) hx hb dX12_isWord_46 (by decide) (fun c42 => ?_) (fun c42 => ?_)
            · have b43 : x35.toInt ≠ x40.toInt := hw_ine c42
              refine lv_iconst (v := 0) hx hb dX12_isWord_53 (by decide) ?_
              refine lv_istore_n (lv' := [(2, .int 0), (3, .int y3_9), (0, .ref h0), (1, .ref p1)]) hx hb dX12_isWord_54 rfl hl (by decide) rfl (fun ls hl => ?_)
              obtain ⟨x44, e45⟩ : ∃ y : Int32, y = y3_9 + 1 := ⟨_, rfl⟩
              refine lv_iinc (v := x44) (lv' := [(3, .int x44), (2, .int 0), (0, .ref h0), (1, .ref p1)]) hx hb dX12_isWord_55 hl (k := 1) rfl (by rw [e45]; rfl) (by decide) rfl (fun ls hl => ?_)
              have t46 : x44.toInt = y3_9.toInt + 1 := by rw [e45]; exact hw_add rfl rfl (by omega) (by omega)
              refine lv_goto (tgt := 22) hx hb dX12_isWord_58 (by decide) ?_
              exact ih22 x44 0 (by first | omega | omega) ⟨by first | decide | omega, by first | decide | omega⟩ ⟨by first | decide | omega, by first | decide | omega⟩ (by first | (left; rfl) | omega) _ (lv_sub hl [0, 1, 2, 3] rfl)
            · have b47 : x35.toInt = x40.toInt := hw_ieq c42
              refine lv_iconst (v := 1) hx hb dX12_isWord_49 (by decide) ?_
              refine lv_goto (tgt := 54) hx hb dX12_isWord_50 (by decide) ?_
              refine lv_istore_n (lv' := [(2, .int 1), (3, .int y3_9), (0, .ref h0), (1, .ref p1)]) hx hb dX12_isWord_54 rfl hl (by decide) rfl (fun ls hl => ?_)
              obtain ⟨x48, e49⟩ : ∃ y : Int32, y = y3_9 + 1 := ⟨_, rfl⟩
              refine lv_iinc (v := x48) (lv' := [(3, .int x48), (2, .int 1), (0, .ref h0), (1, .ref p1)]) hx hb dX12_isWord_55 hl (k := 1) rfl (by rw [e49]; rfl) (by decide) rfl (fun ls hl => ?_)
              have t50 : x48.toInt = y3_9.toInt + 1 := by rw [e49]; exact hw_add rfl rfl (by omega) (by omega)
              refine lv_goto (tgt := 22) hx hb dX12_isWord_58 (by decide) ?_
              exact ih22 x48 1 (by first | omega | omega) ⟨by first | decide | omega, by first | decide | omega⟩ ⟨by first | decide | omega, by first | decide | omega⟩ (by first | (left; rfl) | omega) _ (lv_sub hl [0, 1, 2, 3] rfl)
    exact L22 _ 0 0 (Nat.lt_succ_self _) ⟨by first | decide | omega, by first | decide | omega⟩ ⟨by first | decide | omega, by first | decide | omega⟩ (by first | (left; rfl) | omega) _ (lv_sub hl [0, 1, 2, 3] rfl)
  · have b51 : x1.toInt = 6 := hw_ieq c7
    refine lv_iconst (v := 1) hx hb dX12_isWord_14 (by decide) ?_
    refine lv_goto (tgt := 19) hx hb dX12_isWord_15 (by decide) ?_
    refine lv_istore_n (lv' := [(2, .int 1), (0, .ref h0), (1, .ref p1)]) hx hb dX12_isWord_19 rfl hl (by decide) rfl (fun ls hl => ?_)
    refine lv_iconst (v := 0) hx hb dX12_isWord_20 (by decide) ?_
    refine lv_istore_n (lv' := [(3, .int 0), (2, .int 1), (0, .ref h0), (1, .ref p1)]) hx hb dX12_isWord_21 rfl hl (by decide) rfl (fun ls hl => ?_)
    have L22 : ∀ (n56 : Nat) (y3_52 : Int32) (y2_53 : Int32) (hm : (6 - y3_52.toInt).toNat < n56) (g54 : 0 ≤ y2_53.toInt ∧ y2_53.toInt ≤ 1) (g55 : 0 ≤ y3_52.toInt ∧ y3_52.toInt ≤ 6) (inv22_0 : y2_53.toInt = 0 ∨ be_m.toInt - fi_m.toInt = 6) (ls : Array Slot) (hl : lv_has ls 4 [(3, .int y3_52), (2, .int y2_53), (0, .ref h0), (1, .ref p1)]), W p l e ({ frames := 0, cells := 0, slots := 0, locals := 0 } : Room) s m args below meth c s.heap [] 0 0 QQ (F0 m 22 ls []) := by
      intro n56
      induction n56 with
      | zero => intro y3_52 y2_53 hm; exact absurd hm (Nat.not_lt_zero _)
      | succ n56 ih22 =>
        intro y3_52 y2_53 hm g54 g55 inv22_0 ls hl
        refine lv_iload_n hx hb dX12_isWord_22 rfl (lv_at hl 0 rfl) ?_
        refine lv_aload_n hx hb dX12_isWord_23 rfl (lv_at hl 3 rfl) ?_
        obtain ⟨f57, v58⟩ := hH.a74 G1
        refine hw_alen (t := 0) (v := 6) hx hb hK v58 rfl rfl dX12_isWord_24 ?_
        refine lv_icmp_ge (tgt := 61) hx hb dX12_isWord_25 (by decide) (fun c60 => ?_) (fun c60 => ?_)
        · have b61 : 6 ≤ y3_52.toInt := hw_ile c60
          refine lv_iload_n hx hb dX12_isWord_61 rfl (lv_at hl 1 rfl) ?_
          rcases (hw_z01 (x := y2_53) (by omega)) with w62 | w62
          · have b63 : y2_53.toInt = 0 := hw_ieq w62
            rw [w62]
            exact hw_iretR (v := 0) hx hb hr hlocks hQ rfl (Or.inl rfl) dX12_isWord_62
          · have b64 : y2_53.toInt = 1 := hw_ieq w62
            rw [w62]
            exact hw_iretR (v := 1) hx hb hr hlocks hQ rfl (Or.inr (⟨rfl, (by first | rfl | trivial | assumption | omega | (intros; first | rfl | assumption | omega | (exfalso; omega)))⟩)) dX12_isWord_62
        · have b65 : y3_52.toInt < 6 := hw_inle c60
          refine lv_iload_n hx hb dX12_isWord_28 rfl (lv_at hl 1 rfl) ?_
          refine lv_if_eq (tgt := 61) hx hb dX12_isWord_29 (by decide) (fun c66 => ?_) (fun c66 => ?_)
          · have b67 : y2_53.toInt = 0 := hw_ieq c66
            refine lv_iload_n hx hb dX12_isWord_61 rfl (lv_at hl 1 rfl) ?_
            rcases (hw_z01 (x := y2_53) (by omega)) with w68 | w68
            · have b69 : y2_53.toInt = 0 := hw_ieq w68
              rw [w68]
              exact hw_iretR (v := 0) hx hb hr hlocks hQ rfl (Or.inl rfl) dX12_isWord_62
            · have b70 : y2_53.toInt = 1 := hw_ieq w68
              rw [w68]
              exact hw_iretR (v := 1) hx hb hr hlocks hQ rfl (Or.inr (⟨rfl, (by first | rfl | trivial | assumption | omega | (intros; first | rfl | assumption | omega | (exfalso; omega)))⟩)) dX12_isWord_62
          · have b71 : y2_53.toInt ≠ 0 := hw_ine c66
            refine lv_aload_n hx hb dX12_isWord_32 rfl (lv_at hl 2 rfl) ?_
            refine hw_get hx hb fg_45_11 hK vm rfl dX12_isWord_33 ?_
            refine lv_aload_n hx hb dX12_isWord_36 rfl (lv_at hl 2 rfl) ?_
            refine hw_get hx hb fg_129_11 hK vm rfl dX12_isWord_37 ?_
            refine lv_iload_n hx hb dX12_isWord_40 rfl (lv_at hl 0 rfl) ?_
            refine lv_iadd hx hb dX12_isWord_41 ?_
            refine lv_topi (fun x72 e73 => ?_)
            have t74 : x72.toInt = fi_m.toInt + y3_52.toInt := by rw [e73]; exact hw_add rfl rfl (by omega) (by omega)
            obtain ⟨f75, v76⟩ := hH.a55 (hw_RM_15 Rm)
            refine hw_iald hx hb hK v76 (hw_in (by omega) (by omega)) dX12_isWord_42 ?_
            refine lv_topi (fun x78 e79 => ?_)
            refine lv_aload_n hx hb dX12_isWord_43 rfl (lv_at hl 3 rfl) ?_
            refine lv_iload_n hx hb dX12_isWord_44 rfl (lv_at hl 0 rfl) ?_
            obtain ⟨f80, v81⟩ := hH.a74 G1
            refine hw_iald hx hb hK v81 (hw_in (by omega) (by omega)) dX12_isWord_45 ?_
            refine lv_topi (fun x83 e84 => ?_)
            refine lv_icmp_ne (tgt := 53) hx hb dX12_isWord_46 (by decide) (fun c85 => ?_) (fun c85 => ?_)
            · have b86 : x78.toInt ≠ x83.toInt := hw_ine c85
              refine lv_iconst (v := 0) hx hb dX12_isWord_53 (by decide) ?_
              refine lv_istore_n (lv' := [(2, .int 0), (3, .int y3_52), (0, .ref h0), (1, .ref p1)]) hx hb dX12_isWord_54 rfl hl (by decide) rfl (fun ls hl => ?_)
              obtain ⟨x87, e88⟩ : ∃ y : Int32, y = y3_52 + 1 := ⟨_, rfl⟩
              refine lv_iinc (v := x87) (lv' := [(3, .int x87), (2, .int 0), (0, .ref h0), (1, .ref p1)]) hx hb dX12_isWord_55 hl (k := 1) rfl (by rw [e88]; rfl) (by decide) rfl (fun ls hl => ?_)
              have t89 : x87.toInt = y3_52.toInt + 1 := by rw [e88]; exact hw_add rfl rfl (by omega) (by omega)
              refine lv_goto (tgt := 22) hx hb dX12_isWord_58 (by decide) ?_
              exact ih22 x87 0 (by first | omega | omega) ⟨by first | decide | omega, by first | decide | omega⟩ ⟨by first | decide | omega, by first | decide | omega⟩ (by first | (left; rfl) | omega) _ (lv_sub hl [0, 1, 2, 3] rfl)
            · have b90 : x78.toInt = x83.toInt := hw_ieq c85
              refine lv_iconst (v := 1) hx hb dX12_isWord_49 (by decide) ?_
              refine lv_goto (tgt := 54) hx hb dX12_isWord_50 (by decide) ?_
              refine lv_istore_n (lv' := [(2, .int 1), (3, .int y3_52), (0, .ref h0), (1, .ref p1)]) hx hb dX12_isWord_54 rfl hl (by decide) rfl (fun ls hl => ?_)
              obtain ⟨x91, e92⟩ : ∃ y : Int32, y = y3_52 + 1 := ⟨_, rfl⟩
              refine lv_iinc (v := x91) (lv' := [(3, .int x91), (2, .int 1), (0, .ref h0), (1, .ref p1)]) hx hb dX12_isWord_55 hl (k := 1) rfl (by rw [e92]; rfl) (by decide) rfl (fun ls hl => ?_)
              have t93 : x91.toInt = y3_52.toInt + 1 := by rw [e92]; exact hw_add rfl rfl (by omega) (by omega)
              refine lv_goto (tgt := 22) hx hb dX12_isWord_58 (by decide) ?_
              exact ih22 x91 1 (by first | omega | omega) ⟨by first | decide | omega, by first | decide | omega⟩ ⟨by first | decide | omega, by first | decide | omega⟩ (by first | (left; rfl) | omega) _ (lv_sub hl [0, 1, 2, 3] rfl)
    exact L22 _ 0 1 (Nat.lt_succ_self _) ⟨by first | decide | omega, by first | decide | omega⟩ ⟨by first | decide | omega, by first | decide | omega⟩ (by first | (left; rfl) | omega) _ (lv_sub hl [0, 1, 2, 3] rfl)

set_option maxHeartbeats 4000000 in
set_option maxRecDepth 100000 in
theorem k_X12_isWord75 (l : Launch) (D : hw_D) (G : Nat → Nat) (h0 : Nat) (p1 : Nat) (sz : Nat) (rm : Nat → Nat) (ud_m ky_m lo_m wk_m dk_m ln_m sm_m fi_m be_m rk_m rl_m rw_m cl_m dg_m : Int32) (G0 : G h0 = 9) (G1 : G p1 = 75) (Rm : hw_RM G rm) (gud_m : 0 ≤ ud_m.toInt ∧ ud_m.toInt ≤ 8) (gky_m : 0 ≤ ky_m.toInt ∧ ky_m.toInt ≤ 7) (glo_m : 0 ≤ lo_m.toInt ∧ lo_m.toInt ≤ 7) (gwk_m : 0 ≤ wk_m.toInt ∧ wk_m.toInt ≤ 3) (gln_m : 0 ≤ ln_m.toInt ∧ ln_m.toInt ≤ 200) (gsm_m : 0 ≤ sm_m.toInt ∧ sm_m.toInt ≤ 6) (gfi_m : 0 ≤ fi_m.toInt ∧ fi_m.toInt ≤ 200) (gbe_m : 0 ≤ be_m.toInt ∧ be_m.toInt ≤ 200) (grk_m : 0 ≤ rk_m.toInt ∧ rk_m.toInt ≤ 7) (grl_m : 0 ≤ rl_m.toInt ∧ rl_m.toInt ≤ 7) (grw_m : 0 ≤ rw_m.toInt ∧ rw_m.toInt ≤ 3) (gdg_m : 0 ≤ dg_m.toInt ∧ dg_m.toInt ≤ 1) : Met l yX12_isWord wsX12_isWord ({ frames := 0, cells := 0, slots := 0, locals := 0 } : Room) (hw_PC D G [.ref h0, .ref p1] sz (fun H => va_at D.1 vwCl (h0, .inr (11, hw_LM rm ud_m ky_m lo_m wk_m dk_m ln_m sm_m fi_m be_m rk_m rl_m rw_m cl_m dg_m)) H)) (hw_QR (fun v => (v = .int 0) ∨ (v = .int 1 ∧ be_m.toInt - fi_m.toInt = 4))) 0 0 (fun _ => False) := by
  refine hw_met (cc := cX12_isWord) (maxL := 4) (ret := (some .boolean)) (plainFor_of_name (by decide)) rfl (Nat.le_of_ble_eq_true rfl) ?_
  intro p e s m args below meth c QQ ls hsz hx hb hml hr hts hown hlocks hnm hH hK hST hF hQ hl
  subst hsz
  have hS : va_S (hw_AW G [] s.heap.size) s.heap s.heap [] := va_S.rf
  have vm := hF
  have hl : lv_has ls 4 [(0, .ref h0), (1, .ref p1)] := hl
  have u_11 : ∀ w ∈ u_ws RX12 TX12 45, w.before args s = true := fun w hw => hts w ((by decide +kernel : ∀ w ∈ u_ws RX12 TX12 45, w ∈ wsX12_isWord) w hw)
  have fg_126_11 : hw_FG s args m 126 11 21 := ⟨RX12, "WardWalkersModel", RX12, TX12, 45, u_11, hown, rfl, by decide, (hts (.fieldLink RX12 126 "WardWalkersModel" "behind" "I") (by decide +kernel)), (fun _ h9 => h9)⟩
  have fg_129_11 : hw_FG s args m 129 11 20 := ⟨RX12, "WardWalkersModel", RX12, TX12, 45, u_11, hown, rfl, by decide, (hts (.fieldLink RX12 129 "WardWalkersModel" "first" "I") (by decide +kernel)), (fun _ h9 => h9)⟩
  have fg_45_11 : hw_FG s args m 45 11 15 := ⟨RX12, "WardWalkersModel", RX12, TX12, 45, u_11, hown, rfl, by decide, (hts (.fieldLink RX12 45 "WardWalkersModel" "text" "[I") (by decide +kernel)), (fun _ h9 => h9)⟩
  refine lv_aload_n hx hb dX12_isWord_0 rfl (lv_at hl 0 rfl) ?_
  refine hw_get hx hb fg_126_11 hK vm rfl dX12_isWord_1 ?_
  refine lv_aload_n hx hb dX12_isWord_4 rfl (lv_at hl 0 rfl) ?_
  refine hw_get hx hb fg_129_11 hK vm rfl dX12_isWord_5 ?_
  refine lv_isub hx hb dX12_isWord_8 ?_
  refine lv_topi (fun x1 e2 => ?_)
  have t3 : x1.toInt = be_m.toInt - fi_m.toInt := by rw [e2]; exact hw_sub rfl rfl (by omega) (by omega)
  refine lv_aload_n hx hb dX12_isWord_9 rfl (lv_at hl 1 rfl) ?_
  obtain ⟨f4, v5⟩ := hH.a75 G1
  refine hw_alen (t := 0) (v := 4) hx hb hK v5 rfl rfl dX12_isWord_10 ?_
  refine lv_icmp_ne (tgt := 18) hx hb dX12_isWord_11 (by decide) (fun c7 => ?_) (fun c7 => ?_)
  · have b8 : x1.toInt ≠ 4 := hw_ine c7
    refine lv_iconst (v := 0) hx hb dX12_isWord_18 (by decide) ?_
    refine lv_istore_n (lv' := [(2, .int 0), (0, .ref h0), (1, .ref p1)]) hx hb dX12_isWord_19 rfl hl (by decide) rfl (fun ls hl => ?_)
    refine lv_iconst (v := 0) hx hb dX12_isWord_20 (by decide) ?_
    refine lv_istore_n (lv' := [(3, .int 0), (2, .int 0), (0, .ref h0), (1, .ref p1)]) hx hb dX12_isWord_21 rfl hl (by decide) rfl (fun ls hl => ?_)
    have L22 : ∀ (n13 : Nat) (y3_9 : Int32) (y2_10 : Int32) (hm : (4 - y3_9.toInt).toNat < n13) (g11 : 0 ≤ y2_10.toInt ∧ y2_10.toInt ≤ 1) (g12 : 0 ≤ y3_9.toInt ∧ y3_9.toInt ≤ 4) (inv22_0 : y2_10.toInt = 0 ∨ be_m.toInt - fi_m.toInt = 4) (ls : Array Slot) (hl : lv_has ls 4 [(3, .int y3_9), (2, .int y2_10), (0, .ref h0), (1, .ref p1)]), W p l e ({ frames := 0, cells := 0, slots := 0, locals := 0 } : Room) s m args below meth c s.heap [] 0 0 QQ (F0 m 22 ls []) := by
      intro n13
      induction n13 with
      | zero => intro y3_9 y2_10 hm; exact absurd hm (Nat.not_lt_zero _)
      | succ n13 ih22 =>
        intro y3_9 y2_10 hm g11 g12 inv22_0 ls hl
        refine lv_iload_n hx hb dX12_isWord_22 rfl (lv_at hl 0 rfl) ?_
        refine lv_aload_n hx hb dX12_isWord_23 rfl (lv_at hl 3 rfl) ?_
        obtain ⟨f14, v15⟩ := hH.a75 G1
        refine hw_alen (t := 0) (v := 4) hx hb hK v15 rfl rfl dX12_isWord_24 ?_
        refine lv_icmp_ge (tgt := 61) hx hb dX12_isWord_25 (by decide) (fun c17 => ?_) (fun c17 => ?_)
        · have b18 : 4 ≤ y3_9.toInt := hw_ile c17
          refine lv_iload_n hx hb dX12_isWord_61 rfl (lv_at hl 1 rfl) ?_
          rcases (hw_z01 (x := y2_10) (by omega)) with w19 | w19
          · have b20 : y2_10.toInt = 0 := hw_ieq w19
            rw [w19]
            exact hw_iretR (v := 0) hx hb hr hlocks hQ rfl (Or.inl rfl) dX12_isWord_62
          · have b21 : y2_10.toInt = 1 := hw_ieq w19
            rw [w19]
            exact hw_iretR (v := 1) hx hb hr hlocks hQ rfl (Or.inr (⟨rfl, (by first | rfl | trivial | assumption | omega | (intros; first | rfl | assumption | omega | (exfalso; omega)))⟩)) dX12_isWord_62
        · have b22 : y3_9.toInt < 4 := hw_inle c17
          refine lv_iload_n hx hb dX12_isWord_28 rfl (lv_at hl 1 rfl) ?_
          refine lv_if_eq (tgt := 61) hx hb dX12_isWord_29 (by decide) (fun c23 => ?_) (fun c23 => ?_)
          · have b24 : y2_10.toInt = 0 := hw_ieq c23
            refine lv_iload_n hx hb dX12_isWord_61 rfl (lv_at hl 1 rfl) ?_
            rcases (hw_z01 (x := y2_10) (by omega)) with w25 | w25
            · have b26 : y2_10.toInt = 0 := hw_ieq w25
              rw [w25]
              exact hw_iretR (v := 0) hx hb hr hlocks hQ rfl (Or.inl rfl) dX12_isWord_62
            · have b27 : y2_10.toInt = 1 := hw_ieq w25
              rw [w25]
              exact hw_iretR (v := 1) hx hb hr hlocks hQ rfl (Or.inr (⟨rfl, (by first | rfl | trivial | assumption | omega | (intros; first | rfl | assumption | omega | (exfalso; omega)))⟩)) dX12_isWord_62
          · have b28 : y2_10.toInt ≠ 0 := hw_ine c23
            refine lv_aload_n hx hb dX12_isWord_32 rfl (lv_at hl 2 rfl) ?_
            refine hw_get hx hb fg_45_11 hK vm rfl dX12_isWord_33 ?_
            refine lv_aload_n hx hb dX12_isWord_36 rfl (lv_at hl 2 rfl) ?_
            refine hw_get hx hb fg_129_11 hK vm rfl dX12_isWord_37 ?_
            refine lv_iload_n hx hb dX12_isWord_40 rfl (lv_at hl 0 rfl) ?_
            refine lv_iadd hx hb dX12_isWord_41 ?_
            refine lv_topi (fun x29 e30 => ?_)
            have t31 : x29.toInt = fi_m.toInt + y3_9.toInt := by rw [e30]; exact hw_add rfl rfl (by omega) (by omega)
            obtain ⟨f32, v33⟩ := hH.a55 (hw_RM_15 Rm)
            refine hw_iald hx hb hK v33 (hw_in (by omega) (by omega)) dX12_isWord_42 ?_
            refine lv_topi (fun x35 e36 => ?_)
            refine lv_aload_n hx hb dX12_isWord_43 rfl (lv_at hl 3 rfl) ?_
            refine lv_iload_n hx hb dX12_isWord_44 rfl (lv_at hl 0 rfl) ?_
            obtain ⟨f37, v38⟩ := hH.a75 G1
            refine hw_iald hx hb hK v38 (hw_in (by omega) (by omega)) dX12_isWord_45 ?_
            refine lv_topi (fun x40 e41 => ?_)
            refine lv_icmp_ne (tgt := 53) hx hb dX12_isWord_46 (by decide) (fun c42 => ?_) (fun c42 => ?_)
            · have b43 : x35.toInt ≠ x40.toInt := hw_ine c42
              refine lv_iconst (v := 0) hx hb dX12_isWord_53 (by decide) ?_
              refine lv_istore_n (lv' := [(2, .int 0), (3, .int y3_9), (0, .ref h0), (1, .ref p1)]) hx hb dX12_isWord_54 rfl hl (by decide) rfl (fun ls hl => ?_)
              obtain ⟨x44, e45⟩ : ∃ y : Int32, y = y3_9 + 1 := ⟨_, rfl⟩
              refine lv_iinc (v := x44) (lv' := [(3, .int x44), (2, .int 0), (0, .ref h0), (1, .ref p1)]) hx hb dX12_isWord_55 hl (k := 1) rfl (by rw [e45]; rfl) (by decide) rfl (fun ls hl => ?_)
              have t46 : x44.toInt = y3_9.toInt + 1 := by rw [e45]; exact hw_add rfl rfl (by omega) (by omega)
              refine lv_goto (tgt := 22) hx hb dX12_isWord_58 (by decide) ?_
              exact ih22 x44 0 (by first | omega | omega) ⟨by first | decide | omega, by first | decide | omega⟩ ⟨by first | decide | omega, by first | decide | omega⟩ (by first | (left; rfl) | omega) _ (lv_sub hl [0, 1, 2, 3] rfl)
            · have b47 : x35.toInt = x40.toInt := hw_ieq c42
              refine lv_iconst (v := 1) hx hb dX12_isWord_49 (by decide) ?_
              refine lv_goto (tgt := 54) hx hb dX12_isWord_50 (by decide) ?_
              refine lv_istore_n (lv' := [(2, .int 1), (3, .int y3_9), (0, .ref h0), (1, .ref p1)]) hx hb dX12_isWord_54 rfl hl (by decide) rfl (fun ls hl => ?_)
              obtain ⟨x48, e49⟩ : ∃ y : Int32, y = y3_9 + 1 := ⟨_, rfl⟩
              refine lv_iinc (v := x48) (lv' := [(3, .int x48), (2, .int 1), (0, .ref h0), (1, .ref p1)]) hx hb dX12_isWord_55 hl (k := 1) rfl (by rw [e49]; rfl) (by decide) rfl (fun ls hl => ?_)
              have t50 : x48.toInt = y3_9.toInt + 1 := by rw [e49]; exact hw_add rfl rfl (by omega) (by omega)
              refine lv_goto (tgt := 22) hx hb dX12_isWord_58 (by decide) ?_
              exact ih22 x48 1 (by first | omega | omega) ⟨by first | decide | omega, by first | decide | omega⟩ ⟨by first | decide | omega, by first | decide | omega⟩ (by first | (left; rfl) | omega) _ (lv_sub hl [0, 1, 2, 3] rfl)
    exact L22 _ 0 0 (Nat.lt_succ_self _) ⟨by first | decide | omega, by first | decide | omega⟩ ⟨by first | decide | omega, by first | decide | omega⟩ (by first | (left; rfl) | omega) _ (lv_sub hl [0, 1, 2, 3] rfl)
  · have b51 : x1.toInt = 4 := hw_ieq c7
    refine lv_iconst (v := 1) hx hb dX12_isWord_14 (by decide) ?_
    refine lv_goto (tgt := 19) hx hb dX12_isWord_15 (by decide) ?_
    refine lv_istore_n (lv' := [(2, .int 1), (0, .ref h0), (1, .ref p1)]) hx hb dX12_isWord_19 rfl hl (by decide) rfl (fun ls hl => ?_)
    refine lv_iconst (v := 0) hx hb dX12_isWord_20 (by decide) ?_
    refine lv_istore_n (lv' := [(3, .int 0), (2, .int 1), (0, .ref h0), (1, .ref p1)]) hx hb dX12_isWord_21 rfl hl (by decide) rfl (fun ls hl => ?_)
    have L22 : ∀ (n56 : Nat) (y3_52 : Int32) (y2_53 : Int32) (hm : (4 - y3_52.toInt).toNat < n56) (g54 : 0 ≤ y2_53.toInt ∧ y2_53.toInt ≤ 1) (g55 : 0 ≤ y3_52.toInt ∧ y3_52.toInt ≤ 4) (inv22_0 : y2_53.toInt = 0 ∨ be_m.toInt - fi_m.toInt = 4) (ls : Array Slot) (hl : lv_has ls 4 [(3, .int y3_52), (2, .int y2_53), (0, .ref h0), (1, .ref p1)]), W p l e ({ frames := 0, cells := 0, slots := 0, locals := 0 } : Room) s m args below meth c s.heap [] 0 0 QQ (F0 m 22 ls []) := by
      intro n56
      induction n56 with
      | zero => intro y3_52 y2_53 hm; exact absurd hm (Nat.not_lt_zero _)
      | succ n56 ih22 =>
        intro y3_52 y2_53 hm g54 g55 inv22_0 ls hl
        refine lv_iload_n hx hb dX12_isWord_22 rfl (lv_at hl 0 rfl) ?_
        refine lv_aload_n hx hb dX12_isWord_23 rfl (lv_at hl 3 rfl) ?_
        obtain ⟨f57, v58⟩ := hH.a75 G1
        refine hw_alen (t := 0) (v := 4) hx hb hK v58 rfl rfl dX12_isWord_24 ?_
        refine lv_icmp_ge (tgt := 61) hx hb dX12_isWord_25 (by decide) (fun c60 => ?_) (fun c60 => ?_)
        · have b61 : 4 ≤ y3_52.toInt := hw_ile c60
          refine lv_iload_n hx hb dX12_isWord_61 rfl (lv_at hl 1 rfl) ?_
          rcases (hw_z01 (x := y2_53) (by omega)) with w62 | w62
          · have b63 : y2_53.toInt = 0 := hw_ieq w62
            rw [w62]
            exact hw_iretR (v := 0) hx hb hr hlocks hQ rfl (Or.inl rfl) dX12_isWord_62
          · have b64 : y2_53.toInt = 1 := hw_ieq w62
            rw [w62]
            exact hw_iretR (v := 1) hx hb hr hlocks hQ rfl (Or.inr (⟨rfl, (by first | rfl | trivial | assumption | omega | (intros; first | rfl | assumption | omega | (exfalso; omega)))⟩)) dX12_isWord_62
        · have b65 : y3_52.toInt < 4 := hw_inle c60
          refine lv_iload_n hx hb dX12_isWord_28 rfl (lv_at hl 1 rfl) ?_
          refine lv_if_eq (tgt := 61) hx hb dX12_isWord_29 (by decide) (fun c66 => ?_) (fun c66 => ?_)
          · have b67 : y2_53.toInt = 0 := hw_ieq c66
            refine lv_iload_n hx hb dX12_isWord_61 rfl (lv_at hl 1 rfl) ?_
            rcases (hw_z01 (x := y2_53) (by omega)) with w68 | w68
            · have b69 : y2_53.toInt = 0 := hw_ieq w68
              rw [w68]
              exact hw_iretR (v := 0) hx hb hr hlocks hQ rfl (Or.inl rfl) dX12_isWord_62
            · have b70 : y2_53.toInt = 1 := hw_ieq w68
              rw [w68]
              exact hw_iretR (v := 1) hx hb hr hlocks hQ rfl (Or.inr (⟨rfl, (by first | rfl | trivial | assumption | omega | (intros; first | rfl | assumption | omega | (exfalso; omega)))⟩)) dX12_isWord_62
          · have b71 : y2_53.toInt ≠ 0 := hw_ine c66
            refine lv_aload_n hx hb dX12_isWord_32 rfl (lv_at hl 2 rfl) ?_
            refine hw_get hx hb fg_45_11 hK vm rfl dX12_isWord_33 ?_
            refine lv_aload_n hx hb dX12_isWord_36 rfl (lv_at hl 2 rfl) ?_
            refine hw_get hx hb fg_129_11 hK vm rfl dX12_isWord_37 ?_
            refine lv_iload_n hx hb dX12_isWord_40 rfl (lv_at hl 0 rfl) ?_
            refine lv_iadd hx hb dX12_isWord_41 ?_
            refine lv_topi (fun x72 e73 => ?_)
            have t74 : x72.toInt = fi_m.toInt + y3_52.toInt := by rw [e73]; exact hw_add rfl rfl (by omega) (by omega)
            obtain ⟨f75, v76⟩ := hH.a55 (hw_RM_15 Rm)
            refine hw_iald hx hb hK v76 (hw_in (by omega) (by omega)) dX12_isWord_42 ?_
            refine lv_topi (fun x78 e79 => ?_)
            refine lv_aload_n hx hb dX12_isWord_43 rfl (lv_at hl 3 rfl) ?_
            refine lv_iload_n hx hb dX12_isWord_44 rfl (lv_at hl 0 rfl) ?_
            obtain ⟨f80, v81⟩ := hH.a75 G1
            refine hw_iald hx hb hK v81 (hw_in (by omega) (by omega)) dX12_isWord_45 ?_
            refine lv_topi (fun x83 e84 => ?_)
            refine lv_icmp_ne (tgt := 53) hx hb dX12_isWord_46 (by decide) (fun c85 => ?_) (fun c85 => ?_)
            · have b86 : x78.toInt ≠ x83.toInt := hw_ine c85
              refine lv_iconst (v := 0) hx hb dX12_isWord_53 (by decide) ?_
              refine lv_istore_n (lv' := [(2, .int 0), (3, .int y3_52), (0, .ref h0), (1, .ref p1)]) hx hb dX12_isWord_54 rfl hl (by decide) rfl (fun ls hl => ?_)
              obtain ⟨x87, e88⟩ : ∃ y : Int32, y = y3_52 + 1 := ⟨_, rfl⟩
              refine lv_iinc (v := x87) (lv' := [(3, .int x87), (2, .int 0), (0, .ref h0), (1, .ref p1)]) hx hb dX12_isWord_55 hl (k := 1) rfl (by rw [e88]; rfl) (by decide) rfl (fun ls hl => ?_)
              have t89 : x87.toInt = y3_52.toInt + 1 := by rw [e88]; exact hw_add rfl rfl (by omega) (by omega)
              refine lv_goto (tgt := 22) hx hb dX12_isWord_58 (by decide) ?_
              exact ih22 x87 0 (by first | omega | omega) ⟨by first | decide | omega, by first | decide | omega⟩ ⟨by first | decide | omega, by first | decide | omega⟩ (by first | (left; rfl) | omega) _ (lv_sub hl [0, 1, 2, 3] rfl)
            · have b90 : x78.toInt = x83.toInt := hw_ieq c85
              refine lv_iconst (v := 1) hx hb dX12_isWord_49 (by decide) ?_
              refine lv_goto (tgt := 54) hx hb dX12_isWord_50 (by decide) ?_
              refine lv_istore_n (lv' := [(2, .int 1), (3, .int y3_52), (0, .ref h0), (1, .ref p1)]) hx hb dX12_isWord_54 rfl hl (by decide) rfl (fun ls hl => ?_)
              obtain ⟨x91, e92⟩ : ∃ y : Int32, y = y3_52 + 1 := ⟨_, rfl⟩
              refine lv_iinc (v := x91) (lv' := [(3, .int x91), (2, .int 1), (0, .ref h0), (1, .ref p1)]) hx hb dX12_isWord_55 hl (k := 1) rfl (by rw [e92]; rfl) (by decide) rfl (fun ls hl => ?_)
              have t93 : x91.toInt = y3_52.toInt + 1 := by rw [e92]; exact hw_add rfl rfl (by omega) (by omega)
              refine lv_goto (tgt := 22) hx hb dX12_isWord_58 (by decide) ?_
              exact ih22 x91 1 (by first | omega | omega) ⟨by first | decide | omega, by first | decide | omega⟩ ⟨by first | decide | omega, by first | decide | omega⟩ (by first | (left; rfl) | omega) _ (lv_sub hl [0, 1, 2, 3] rfl)
    exact L22 _ 0 1 (Nat.lt_succ_self _) ⟨by first | decide | omega, by first | decide | omega⟩ ⟨by first | decide | omega, by first | decide | omega⟩ (by first | (left; rfl) | omega) _ (lv_sub hl [0, 1, 2, 3] rfl)

set_option maxHeartbeats 4000000 in
set_option maxRecDepth 100000 in
theorem k_X12_number (l : Launch) (D : hw_D) (G : Nat → Nat) (h0 : Nat) (p1 : Int32) (p2 : Int32) (p3 : Int32) (sz : Nat) (rm : Nat → Nat) (ud_m ky_m lo_m wk_m dk_m ln_m sm_m fi_m be_m rk_m rl_m rw_m cl_m dg_m : Int32) (G0 : G h0 = 9) (Rm : hw_RM G rm) (gud_m : 0 ≤ ud_m.toInt ∧ ud_m.toInt ≤ 8) (gky_m : 0 ≤ ky_m.toInt ∧ ky_m.toInt ≤ 7) (glo_m : 0 ≤ lo_m.toInt ∧ lo_m.toInt ≤ 7) (gwk_m : 0 ≤ wk_m.toInt ∧ wk_m.toInt ≤ 3) (gln_m : 0 ≤ ln_m.toInt ∧ ln_m.toInt ≤ 200) (gsm_m : 0 ≤ sm_m.toInt ∧ sm_m.toInt ≤ 6) (gfi_m : 0 ≤ fi_m.toInt ∧ fi_m.toInt ≤ 200) (gbe_m : 0 ≤ be_m.toInt ∧ be_m.toInt ≤ 200) (grk_m : 0 ≤ rk_m.toInt ∧ rk_m.toInt ≤ 7) (grl_m : 0 ≤ rl_m.toInt ∧ rl_m.toInt ≤ 7) (grw_m : 0 ≤ rw_m.toInt ∧ rw_m.toInt ≤ 3) (gdg_m : 0 ≤ dg_m.toInt ∧ dg_m.toInt ≤ 1) (hk : 0 ≤ p1.toInt ∧ p1.toInt ≤ 3) (hf : fi_m.toInt ≤ ln_m.toInt) (hb : be_m.toInt ≤ ln_m.toInt) : Met l yX12_number wsX12_number ({ frames := 3, cells := 0, slots := 0, locals := 65 } : Room) (hw_PC D G [.ref h0, .int p1, .int p2, .int p3] sz (fun H => va_at D.1 vwCl (h0, .inr (11, hw_LM rm ud_m ky_m lo_m wk_m dk_m ln_m sm_m fi_m be_m rk_m rl_m rw_m cl_m dg_m)) H)) (hw_QM (fun v H => (∃ (fi_m2 : Int32) (be_m2 : Int32), v = some (.int 0) ∧ hw_HT D G H ∧ va_at D.1 vwCl (h0, .inr (11, hw_LM rm ud_m ky_m lo_m wk_m dk_m ln_m sm_m fi_m2 be_m2 rk_m rl_m rw_m cl_m dg_m)) H ∧ (0 ≤ fi_m2.toInt ∧ fi_m2.toInt ≤ 200) ∧ (0 ≤ be_m2.toInt ∧ be_m2.toInt ≤ 200) ∧ be_m2.toInt ≤ ln_m.toInt ∧ fi_m2.toInt ≤ ln_m.toInt) ∨ (∃ (fi_m2 : Int32) (be_m2 : Int32), v = some (.int 1) ∧ hw_HT D G H ∧ va_at D.1 vwCl (h0, .inr (11, hw_LM rm ud_m ky_m lo_m wk_m dk_m ln_m sm_m fi_m2 be_m2 rk_m rl_m rw_m cl_m dg_m)) H ∧ (0 ≤ fi_m2.toInt ∧ fi_m2.toInt ≤ 200) ∧ (0 ≤ be_m2.toInt ∧ be_m2.toInt ≤ 200) ∧ be_m2.toInt ≤ ln_m.toInt ∧ fi_m2.toInt ≤ ln_m.toInt)) (hw_AW G [9, 67] sz)) 0 0 (hw_AW G [9, 67] sz) := by
  refine hw_met (cc := cX12_number) (maxL := 6) (ret := (some .boolean)) (plainFor_of_name (by decide)) rfl (Nat.le_of_ble_eq_true rfl) ?_
  intro p e s m args below meth c QQ ls hsz hx hb hml hr hts hown hlocks hnm hH hK hST hF hQ hl
  subst hsz
  have hS : va_S (hw_AW G [9, 67] s.heap.size) s.heap s.heap [] := va_S.rf
  have vm := hF
  have hl : lv_has ls 6 [(0, .ref h0), (1, .int p1), (2, .int p2), (3, .int p3)] := hl
  have u_11 : ∀ w ∈ u_ws RX12 TX12 45, w.before args s = true := fun w hw => hts w ((by decide +kernel : ∀ w ∈ u_ws RX12 TX12 45, w ∈ wsX12_number) w hw)
  have fg_129_11 : hw_FG s args m 129 11 20 := ⟨RX12, "WardWalkersModel", RX12, TX12, 45, u_11, hown, rfl, by decide, (hts (.fieldLink RX12 129 "WardWalkersModel" "first" "I") (by decide +kernel)), (fun _ h9 => h9)⟩
  have fg_115_11 : hw_FG s args m 115 11 16 := ⟨RX12, "WardWalkersModel", RX12, TX12, 45, u_11, hown, rfl, by decide, (hts (.fieldLink RX12 115 "WardWalkersModel" "length" "I") (by decide +kernel)), (fun _ h9 => h9)⟩
  have fg_45_11 : hw_FG s args m 45 11 15 := ⟨RX12, "WardWalkersModel", RX12, TX12, 45, u_11, hown, rfl, by decide, (hts (.fieldLink RX12 45 "WardWalkersModel" "text" "[I") (by decide +kernel)), (fun _ h9 => h9)⟩
  have fg_126_11 : hw_FG s args m 126 11 21 := ⟨RX12, "WardWalkersModel", RX12, TX12, 45, u_11, hown, rfl, by decide, (hts (.fieldLink RX12 126 "WardWalkersModel" "behind" "I") (by decide +kernel)), (fun _ h9 => h9)⟩
  have fg_54_11 : hw_FG s args m 54 11 27 := ⟨RX12, "WardWalkersModel", RX12, TX12, 45, u_11, hown, rfl, by decide, (hts (.fieldLink RX12 54 "WardWalkersModel" "numbers" "[I") (by decide +kernel)), (fun _ h9 => h9)⟩
  refine lv_aload_n hx hb dX12_number_0 rfl (lv_at hl 0 rfl) ?_
  refine hw_get hx hb fg_129_11 hK vm rfl dX12_number_1 ?_
  refine lv_aload_n hx hb dX12_number_4 rfl (lv_at hl 0 rfl) ?_
  refine hw_get hx hb fg_115_11 hK vm rfl dX12_number_5 ?_
  refine lv_icmp_eq (tgt := 39) hx hb dX12_number_8 (by decide) (fun c1 => ?_) (fun c1 => ?_)
  · have b2 : fi_m.toInt = ln_m.toInt := hw_ieq c1
    refine lv_iconst (v := 0) hx hb dX12_number_39 (by decide) ?_
    exact hw_iretM (v := 0) hx hb hr hlocks hQ hS rfl (Or.inl ⟨fi_m, be_m, rfl, hH, vm, ⟨by first | decide | omega, by first | decide | omega⟩, ⟨by first | decide | omega, by first | decide | omega⟩, (by first | rfl | trivial | assumption | omega | (intros; first | rfl | assumption | omega | (exfalso; omega))), (by first | rfl | trivial | assumption | omega | (intros; first | rfl | assumption | omega | (exfalso; omega)))⟩) dX12_number_40
  · have b3 : fi_m.toInt ≠ ln_m.toInt := hw_ine c1
    refine lv_aload_n hx hb dX12_number_11 rfl (lv_at hl 0 rfl) ?_
    refine hw_get hx hb fg_45_11 hK vm rfl dX12_number_12 ?_
    refine lv_aload_n hx hb dX12_number_15 rfl (lv_at hl 0 rfl) ?_
    refine hw_get hx hb fg_129_11 hK vm rfl dX12_number_16 ?_
    obtain ⟨f4, v5⟩ := hH.a55 (hw_RM_15 Rm)
    refine hw_iald hx hb hK v5 (hw_in (by omega) (by omega)) dX12_number_19 ?_
    refine lv_topi (fun x7 e8 => ?_)
    refine hw_cR (va_runS (As := [.int x7]) (rest := []) ⟨hx, hb, hml, hown, hts⟩ (k_X12_isDigit l D G x7 _) (va_cwS 1 hts gX12_number_X12_isDigit rfl rfl rfl (by decide +kernel) ⟨Nat.le_of_ble_eq_true rfl, Nat.le_of_ble_eq_true rfl⟩) (hw_pS hH hK hST hS (by decide) (fun _ h => Or.inl h) trivial) rfl rfl hl.1 rfl (lv_room (Nat.le_of_ble_eq_true rfl)) dX12_number_20 ⟨Nat.le_of_ble_eq_true rfl, Nat.le_of_ble_eq_true rfl⟩) (fun v hp => ?_)
    rcases hp with rfl | rfl
    · refine lv_if_eq (tgt := 39) hx hb dX12_number_23 (by decide) (fun c9 => ?_) (fun c9 => ?_)
      · exact absurd c9 (by decide)
      · refine lv_aload_n hx hb dX12_number_26 rfl (lv_at hl 0 rfl) ?_
        refine hw_get hx hb fg_126_11 hK vm rfl dX12_number_27 ?_
        refine lv_aload_n hx hb dX12_number_30 rfl (lv_at hl 0 rfl) ?_
        refine hw_get hx hb fg_129_11 hK vm rfl dX12_number_31 ?_
        refine lv_isub hx hb dX12_number_34 ?_
        refine lv_topi (fun x10 e11 => ?_)
        have t12 : x10.toInt = be_m.toInt - fi_m.toInt := by rw [e11]; exact hw_sub rfl rfl (by omega) (by omega)
        refine lv_iconst (v := 3) hx hb dX12_number_35 (by decide) ?_
        refine lv_icmp_le (tgt := 41) hx hb dX12_number_36 (by decide) (fun c13 => ?_) (fun c13 => ?_)
        · have b14 : x10.toInt ≤ 3 := hw_ile c13
          refine lv_iconst (v := 0) hx hb dX12_number_41 (by decide) ?_
          refine lv_istore (lv' := [(4, .int 0), (0, .ref h0), (1, .int p1), (2, .int p2), (3, .int p3)]) hx hb dX12_number_42 hl (by decide) rfl (fun ls hl => ?_)
          refine lv_aload_n hx hb dX12_number_44 rfl (lv_at hl 1 rfl) ?_
          refine hw_get hx hb fg_129_11 hK vm rfl dX12_number_45 ?_
          refine lv_istore (lv' := [(5, .int fi_m), (4, .int 0), (0, .ref h0), (1, .int p1), (2, .int p2), (3, .int p3)]) hx hb dX12_number_48 hl (by decide) rfl (fun ls hl => ?_)
          have L50 : ∀ (n18 : Nat) (y5_15 : Int32) (y4_16 : Int32) (hm : (200 - y5_15.toInt).toNat < n18) (g17 : 0 ≤ y5_15.toInt ∧ y5_15.toInt ≤ 200) (H : Heap) (locs : List Loc) (hH : hw_HT D G H) (vm : va_at D.1 vwCl (h0, .inr (11, hw_LM rm ud_m ky_m lo_m wk_m dk_m ln_m sm_m fi_m be_m rk_m rl_m rw_m cl_m dg_m)) H) (hS : va_S (hw_AW G [9, 67] s.heap.size) s.heap H locs) (ls : Array Slot) (hl : lv_has ls 6 [(5, .int y5_15), (4, .int y4_16), (0, .ref h0), (1, .int p1), (2, .int p2), (3, .int p3)]), W p l e ({ frames := 3, cells := 0, slots := 0, locals := 65 } : Room) s m args below meth c H locs 0 0 QQ (F0 m 50 ls []) := by
            intro n18
            induction n18 with
            | zero => intro y5_15 y4_16 hm; exact absurd hm (Nat.not_lt_zero _)
            | succ n18 ih50 =>
              intro y5_15 y4_16 hm g17 H locs hH vm hS ls hl
              refine lv_iload hx hb dX12_number_50 (lv_at hl 0 rfl) ?_
              refine lv_aload_n hx hb dX12_number_52 rfl (lv_at hl 2 rfl) ?_
              refine hw_get hx hb fg_126_11 hK vm rfl dX12_number_53 ?_
              refine lv_icmp_ge (tgt := 83) hx hb dX12_number_56 (by decide) (fun c19 => ?_) (fun c19 => ?_)
              · have b20 : be_m.toInt ≤ y5_15.toInt := hw_ile c19
                refine lv_iload hx hb dX12_number_83 (lv_at hl 1 rfl) ?_
                refine lv_i2l hx hb dX12_number_85 rfl ?_
                refine lv_topl (fun x21 e22 => ?_)
                have t23 : x21.toInt = y4_16.toInt := by rw [e22]; exact hw_i2l _
                have rg24 := hw_rng y4_16
                refine lv_iload_n hx hb dX12_number_86 rfl (lv_at hl 4 rfl) ?_
                refine lv_i2l hx hb dX12_number_87 rfl ?_
                refine lv_topl (fun x25 e26 => ?_)
                have t27 : x25.toInt = p2.toInt := by rw [e26]; exact hw_i2l _
                have rg28 := hw_rng p2
                refine lv_iload_n hx hb dX12_number_88 rfl (lv_at hl 5 rfl) ?_
                refine lv_i2l hx hb dX12_number_89 rfl ?_
                refine lv_topl (fun x29 e30 => ?_)
                have t31 : x29.toInt = p3.toInt := by rw [e30]; exact hw_i2l _
                have rg32 := hw_rng p3
                refine hw_cR (va_runS (As := [.long x21, .long x25, .long x29]) (rest := []) ⟨hx, hb, hml, hown, hts⟩ (k_X12_in l D G x21 x25 x29 _) (va_cwS 3 hts gX12_number_X12_in rfl rfl rfl (by decide +kernel) ⟨Nat.le_of_ble_eq_true rfl, Nat.le_of_ble_eq_true rfl⟩) (hw_pS hH hK hST hS (by decide) (fun _ h => Or.inl h) trivial) rfl rfl hl.1 rfl (lv_room (Nat.le_of_ble_eq_true rfl)) dX12_number_90 ⟨Nat.le_of_ble_eq_true rfl, Nat.le_of_ble_eq_true rfl⟩) (fun v hp => ?_)
                rcases hp with ⟨rfl, q33⟩ | ⟨rfl, q34⟩
                · refine lv_if_ne (tgt := 98) hx hb dX12_number_93 (by decide) (fun c35 => ?_) (fun c35 => ?_)
                  · refine lv_aload_n hx hb dX12_number_98 rfl (lv_at hl 2 rfl) ?_
                    refine hw_get hx hb fg_54_11 hK vm rfl dX12_number_99 ?_
                    refine lv_iload_n hx hb dX12_number_102 rfl (lv_at hl 3 rfl) ?_
                    refine lv_iload hx hb dX12_number_103 (lv_at hl 1 rfl) ?_
                    obtain ⟨f36, v37⟩ := hH.a67 (hw_RM_27 Rm)
                    refine hw_iast hx hb hK hH v37 (hw_in (by omega) (by omega)) (fun _ => by rw [(hw_RM_27 Rm)]; exact ⟨_, rfl⟩) hS (hw_AWi (hw_RM_27 Rm) (by decide)) dX12_number_105 (fun H locs hH v37 oq hz hS => ?_)
                    have vm := va_at.kept vm (oq _ (hw_ne G0 (hw_RM_27 Rm) (by decide)))
                    refine lv_aload_n hx hb dX12_number_106 rfl (lv_at hl 2 rfl) ?_
                    refine hw_cM0 (va_runV (As := []) (rest := []) ⟨hx, hb, hml, hown, hts⟩ (k_X12_nextToken l D G h0 _ rm ud_m ky_m lo_m wk_m dk_m ln_m sm_m fi_m be_m rk_m rl_m rw_m cl_m dg_m G0 Rm ⟨by first | decide | omega, by first | decide | omega⟩ ⟨by first | decide | omega, by first | decide | omega⟩ ⟨by first | decide | omega, by first | decide | omega⟩ ⟨by first | decide | omega, by first | decide | omega⟩ ⟨by first | decide | omega, by first | decide | omega⟩ ⟨by first | decide | omega, by first | decide | omega⟩ ⟨by first | decide | omega, by first | decide | omega⟩ ⟨by first | decide | omega, by first | decide | omega⟩ ⟨by first | decide | omega, by first | decide | omega⟩ ⟨by first | decide | omega, by first | decide | omega⟩ ⟨by first | decide | omega, by first | decide | omega⟩ ⟨by first | decide | omega, by first | decide | omega⟩) (cwV 0 hts gX12_number_X12_nextToken rfl rfl rfl (by decide +kernel) ⟨Nat.le_of_ble_eq_true rfl, Nat.le_of_ble_eq_true rfl⟩) (hw_pV (hw_rc (q := (RX12, TX12, 45)) hK vm rfl) hH hK hST hS (by decide) (fun _ h => Or.inl h) vm) rfl rfl hl.1 rfl (lv_room (Nat.le_of_ble_eq_true rfl)) dX12_number_107 ⟨Nat.le_of_ble_eq_true rfl, Nat.le_of_ble_eq_true rfl⟩) hS (hw_AWsub (by decide) (fun _ _ => rfl) hS.1) (fun v H locs hp hz hk hS => ?_)
                    obtain ⟨x39, x40, rfl, hH, v41, g42, g43, q44, q45, q46⟩ := hp
                    refine lv_iconst (v := 1) hx hb dX12_number_110 (by decide) ?_
                    exact hw_iretM (v := 1) hx hb hr hlocks hQ hS rfl (Or.inr (⟨x39, x40, rfl, hH, v41, ⟨by first | decide | omega, by first | decide | omega⟩, ⟨by first | decide | omega, by first | decide | omega⟩, (by first | rfl | trivial | assumption | omega | (intros; first | rfl | assumption | omega | (exfalso; omega))), (by first | rfl | trivial | assumption | omega | (intros; first | rfl | assumption | omega | (exfalso; omega)))⟩)) dX12_number_111
                  · exact absurd c35 (by decide)
                · refine lv_if_ne (tgt := 98) hx hb dX12_number_93 (by decide) (fun c47 => ?_) (fun c47 => ?_)
                  · exact absurd c47 (by decide)
                  · refine lv_iconst (v := 0) hx hb dX12_number_96 (by decide) ?_
                    exact hw_iretM (v := 0) hx hb hr hlocks hQ hS rfl (Or.inl ⟨fi_m, be_m, rfl, hH, vm, ⟨by first | decide | omega, by first | decide | omega⟩, ⟨by first | decide | omega, by first | decide | omega⟩, (by first | rfl | trivial | assumption | omega | (intros; first | rfl | assumption | omega | (exfalso; omega))), (by first | rfl | trivial | assumption | omega | (intros; first | rfl | assumption | omega | (exfalso; omega)))⟩) dX12_number_97
              · have b48 : y5_15.toInt < be_m.toInt := hw_inle c19
                refine lv_bipush (v := 10) hx hb dX12_number_59 (by decide) ?_
                refine lv_iload hx hb dX12_number_61 (lv_at hl 1 rfl) ?_
                refine lv_imul hx hb dX12_number_63 ?_
                refine lv_topi (fun x49 e50 => ?_)
                refine lv_aload_n hx hb dX12_number_64 rfl (lv_at hl 2 rfl) ?_
                refine hw_get hx hb fg_45_11 hK vm rfl dX12_number_65 ?_
                refine lv_iload hx hb dX12_number_68 (lv_at hl 0 rfl) ?_
                obtain ⟨f51, v52⟩ := hH.a55 (hw_RM_15 Rm)
                refine hw_iald hx hb hK v52 (hw_in (by omega) (by omega)) dX12_number_70 ?_
                refine lv_topi (fun x54 e55 => ?_)
                refine lv_iadd hx hb dX12_number_71 ?_
                refine lv_topi (fun x56 e57 => ?_)
                refine lv_bipush (v := 48) hx hb dX12_number_72 (by decide) ?_
                refine lv_isub hx hb dX12_number_74 ?_
                refine lv_topi (fun x58 e59 => ?_)
                refine lv_istore (lv' := [(4, .int x58), (5, .int y5_15), (0, .ref h0), (1, .int p1), (2, .int p2), (3, .int p3)]) hx hb dX12_number_75 hl (by decide) rfl (fun ls hl => ?_)
                obtain ⟨x60, e61⟩ : ∃ y : Int32, y = y5_15 + 1 := ⟨_, rfl⟩
                refine lv_iinc (v := x60) (lv' := [(5, .int x60), (4, .int x58), (0, .ref h0), (1, .int p1), (2, .int p2), (3, .int p3)]) hx hb dX12_number_77 hl (k := 1) rfl (by rw [e61]; rfl) (by decide) rfl (fun ls hl => ?_)
                have t62 : x60.toInt = y5_15.toInt + 1 := by rw [e61]; exact hw_add rfl rfl (by omega) (by omega)
                refine lv_goto (tgt := 50) hx hb dX12_number_80 (by decide) ?_
                exact ih50 x60 x58 (by first | omega | omega) ⟨by first | decide | omega, by first | decide | omega⟩ _ _ hH vm hS _ (lv_sub hl [0, 1, 2, 3, 4, 5] rfl)
          exact L50 _ fi_m 0 (Nat.lt_succ_self _) ⟨by first | decide | omega, by first | decide | omega⟩ _ _ hH vm hS _ (lv_sub hl [0, 1, 2, 3, 4, 5] rfl)
        · have b63 : 3 < x10.toInt := hw_inle c13
          refine lv_iconst (v := 0) hx hb dX12_number_39 (by decide) ?_
          exact hw_iretM (v := 0) hx hb hr hlocks hQ hS rfl (Or.inl ⟨fi_m, be_m, rfl, hH, vm, ⟨by first | decide | omega, by first | decide | omega⟩, ⟨by first | decide | omega, by first | decide | omega⟩, (by first | rfl | trivial | assumption | omega | (intros; first | rfl | assumption | omega | (exfalso; omega))), (by first | rfl | trivial | assumption | omega | (intros; first | rfl | assumption | omega | (exfalso; omega)))⟩) dX12_number_40
    · refine lv_if_eq (tgt := 39) hx hb dX12_number_23 (by decide) (fun c64 => ?_) (fun c64 => ?_)
      · refine lv_iconst (v := 0) hx hb dX12_number_39 (by decide) ?_
        exact hw_iretM (v := 0) hx hb hr hlocks hQ hS rfl (Or.inl ⟨fi_m, be_m, rfl, hH, vm, ⟨by first | decide | omega, by first | decide | omega⟩, ⟨by first | decide | omega, by first | decide | omega⟩, (by first | rfl | trivial | assumption | omega | (intros; first | rfl | assumption | omega | (exfalso; omega))), (by first | rfl | trivial | assumption | omega | (intros; first | rfl | assumption | omega | (exfalso; omega)))⟩) dX12_number_40
      · exact absurd c64 (by decide)

set_option maxHeartbeats 4000000 in
set_option maxRecDepth 100000 in
theorem k_X12_empty (l : Launch) (D : hw_D) (G : Nat → Nat) (h0 : Nat) (sz : Nat) (rm : Nat → Nat) (ud_m ky_m lo_m wk_m dk_m ln_m sm_m fi_m be_m rk_m rl_m rw_m cl_m dg_m : Int32) (G0 : G h0 = 9) (Rm : hw_RM G rm) (gud_m : 0 ≤ ud_m.toInt ∧ ud_m.toInt ≤ 8) (gky_m : 0 ≤ ky_m.toInt ∧ ky_m.toInt ≤ 7) (glo_m : 0 ≤ lo_m.toInt ∧ lo_m.toInt ≤ 7) (gwk_m : 0 ≤ wk_m.toInt ∧ wk_m.toInt ≤ 3) (gln_m : 0 ≤ ln_m.toInt ∧ ln_m.toInt ≤ 200) (gsm_m : 0 ≤ sm_m.toInt ∧ sm_m.toInt ≤ 6) (gfi_m : 0 ≤ fi_m.toInt ∧ fi_m.toInt ≤ 200) (gbe_m : 0 ≤ be_m.toInt ∧ be_m.toInt ≤ 200) (grk_m : 0 ≤ rk_m.toInt ∧ rk_m.toInt ≤ 7) (grl_m : 0 ≤ rl_m.toInt ∧ rl_m.toInt ≤ 7) (grw_m : 0 ≤ rw_m.toInt ∧ rw_m.toInt ≤ 3) (gdg_m : 0 ≤ dg_m.toInt ∧ dg_m.toInt ≤ 1) : Met l yX12_empty wsX12_empty ({ frames := 0, cells := 0, slots := 0, locals := 0 } : Room) (hw_PC D G [.ref h0] sz (fun H => va_at D.1 vwCl (h0, .inr (11, hw_LM rm ud_m ky_m lo_m wk_m dk_m ln_m sm_m fi_m be_m rk_m rl_m rw_m cl_m dg_m)) H)) (hw_QM (fun v H => ∃ (ky_m2 : Int32) (lo_m2 : Int32) (wk_m2 : Int32) (dk_m2 : Int32), v = none ∧ hw_HT D G H ∧ va_at D.1 vwCl (h0, .inr (11, hw_LM rm ud_m ky_m2 lo_m2 wk_m2 dk_m2 ln_m sm_m fi_m be_m rk_m rl_m rw_m cl_m dg_m)) H ∧ (0 ≤ ky_m2.toInt ∧ ky_m2.toInt ≤ 7) ∧ (0 ≤ lo_m2.toInt ∧ lo_m2.toInt ≤ 7) ∧ (0 ≤ wk_m2.toInt ∧ wk_m2.toInt ≤ 3) ∧ ky_m2.toInt = 0 ∧ lo_m2.toInt = 0 ∧ wk_m2.toInt = 0) (hw_AW G [9] sz)) 0 0 (hw_AW G [9] sz) := by
  refine hw_met (cc := cX12_empty) (maxL := 1) (ret := none) (plainFor_of_name (by decide)) rfl (Nat.le_of_ble_eq_true rfl) ?_
  intro p e s m args below meth c QQ ls hsz hx hb hml hr hts hown hlocks hnm hH hK hST hF hQ hl
  subst hsz
  have hS : va_S (hw_AW G [9] s.heap.size) s.heap s.heap [] := va_S.rf
  have vm := hF
  have hl : lv_has ls 1 [(0, .ref h0)] := hl
  have u_11 : ∀ w ∈ u_ws RX12 TX12 45, w.before args s = true := fun w hw => hts w ((by decide +kernel : ∀ w ∈ u_ws RX12 TX12 45, w ∈ wsX12_empty) w hw)
  have fp_142_11 : hw_FP s args m 142 11 3 false .int := ⟨RX12, "WardWalkersModel", RX12, TX12, 45, tyX12, u_11, hown, rfl, by decide, (hts (.fieldLink RX12 142 "WardWalkersModel" "keys" "I") (by decide +kernel)), (fun _ h9 => h9), tyX12_ok, nmX12, rfl, (fun h => by cases h), by decide +kernel⟩
  have fp_145_11 : hw_FP s args m 145 11 7 false .int := ⟨RX12, "WardWalkersModel", RX12, TX12, 45, tyX12, u_11, hown, rfl, by decide, (hts (.fieldLink RX12 145 "WardWalkersModel" "locks" "I") (by decide +kernel)), (fun _ h9 => h9), tyX12_ok, nmX12, rfl, (fun h => by cases h), by decide +kernel⟩
  have fp_148_11 : hw_FP s args m 148 11 12 false .int := ⟨RX12, "WardWalkersModel", RX12, TX12, 45, tyX12, u_11, hown, rfl, by decide, (hts (.fieldLink RX12 148 "WardWalkersModel" "walkers" "I") (by decide +kernel)), (fun _ h9 => h9), tyX12_ok, nmX12, rfl, (fun h => by cases h), by decide +kernel⟩
  have fp_41_11 : hw_FP s args m 41 11 14 false .int := ⟨RX12, "WardWalkersModel", RX12, TX12, 45, tyX12, u_11, hown, rfl, by decide, (hts (.fieldLink RX12 41 "WardWalkersModel" "dark" "I") (by decide +kernel)), (fun _ h9 => h9), tyX12_ok, nmX12, rfl, (fun h => by cases h), by decide +kernel⟩
  refine lv_aload_n hx hb dX12_empty_0 rfl (lv_at hl 0 rfl) ?_
  refine lv_iconst (v := 0) hx hb dX12_empty_1 (by decide) ?_
  refine hw_put (v := .int 0) (fs' := hw_LM rm ud_m 0 lo_m wk_m dk_m ln_m sm_m fi_m be_m rk_m rl_m rw_m cl_m dg_m) hx hb fp_142_11 hK hH vm (Nat.le_of_ble_eq_true rfl) rfl rfl rfl (fun _ => by rw [G0]; exact ⟨rm, ud_m, 0, lo_m, wk_m, dk_m, ln_m, sm_m, fi_m, be_m, rk_m, rl_m, rw_m, cl_m, dg_m, rfl, Rm, ⟨by first | decide | omega, by first | decide | omega⟩, ⟨by first | decide | omega, by first | decide | omega⟩, ⟨by first | decide | omega, by first | decide | omega⟩, ⟨by first | decide | omega, by first | decide | omega⟩, ⟨by first | decide | omega, by first | decide | omega⟩, ⟨by first | decide | omega, by first | decide | omega⟩, ⟨by first | decide | omega, by first | decide | omega⟩, ⟨by first | decide | omega, by first | decide | omega⟩, ⟨by first | decide | omega, by first | decide | omega⟩, ⟨by first | decide | omega, by first | decide | omega⟩, ⟨by first | decide | omega, by first | decide | omega⟩, ⟨by first | decide | omega, by first | decide | omega⟩⟩) hS (hw_AWi G0 (by decide)) dX12_empty_2 (fun H locs hH vm oq hz hS => ?_)
  refine lv_aload_n hx hb dX12_empty_5 rfl (lv_at hl 0 rfl) ?_
  refine lv_iconst (v := 0) hx hb dX12_empty_6 (by decide) ?_
  refine hw_put (v := .int 0) (fs' := hw_LM rm ud_m 0 0 wk_m dk_m ln_m sm_m fi_m be_m rk_m rl_m rw_m cl_m dg_m) hx hb fp_145_11 hK hH vm (Nat.le_of_ble_eq_true rfl) rfl rfl rfl (fun _ => by rw [G0]; exact ⟨rm, ud_m, 0, 0, wk_m, dk_m, ln_m, sm_m, fi_m, be_m, rk_m, rl_m, rw_m, cl_m, dg_m, rfl, Rm, ⟨by first | decide | omega, by first | decide | omega⟩, ⟨by first | decide | omega, by first | decide | omega⟩, ⟨by first | decide | omega, by first | decide | omega⟩, ⟨by first | decide | omega, by first | decide | omega⟩, ⟨by first | decide | omega, by first | decide | omega⟩, ⟨by first | decide | omega, by first | decide | omega⟩, ⟨by first | decide | omega, by first | decide | omega⟩, ⟨by first | decide | omega, by first | decide | omega⟩, ⟨by first | decide | omega, by first | decide | omega⟩, ⟨by first | decide | omega, by first | decide | omega⟩, ⟨by first | decide | omega, by first | decide | omega⟩, ⟨by first | decide | omega, by first | decide | omega⟩⟩) hS (hw_AWi G0 (by decide)) dX12_empty_7 (fun H locs hH vm oq hz hS => ?_)
  refine lv_aload_n hx hb dX12_empty_10 rfl (lv_at hl 0 rfl) ?_
  refine lv_iconst (v := 0) hx hb dX12_empty_11 (by decide) ?_
  refine hw_put (v := .int 0) (fs' := hw_LM rm ud_m 0 0 0 dk_m ln_m sm_m fi_m be_m rk_m rl_m rw_m cl_m dg_m) hx hb fp_148_11 hK hH vm (Nat.le_of_ble_eq_true rfl) rfl rfl rfl (fun _ => by rw [G0]; exact ⟨rm, ud_m, 0, 0, 0, dk_m, ln_m, sm_m, fi_m, be_m, rk_m, rl_m, rw_m, cl_m, dg_m, rfl, Rm, ⟨by first | decide | omega, by first | decide | omega⟩, ⟨by first | decide | omega, by first | decide | omega⟩, ⟨by first | decide | omega, by first | decide | omega⟩, ⟨by first | decide | omega, by first | decide | omega⟩, ⟨by first | decide | omega, by first | decide | omega⟩, ⟨by first | decide | omega, by first | decide | omega⟩, ⟨by first | decide | omega, by first | decide | omega⟩, ⟨by first | decide | omega, by first | decide | omega⟩, ⟨by first | decide | omega, by first | decide | omega⟩, ⟨by first | decide | omega, by first | decide | omega⟩, ⟨by first | decide | omega, by first | decide | omega⟩, ⟨by first | decide | omega, by first | decide | omega⟩⟩) hS (hw_AWi G0 (by decide)) dX12_empty_12 (fun H locs hH vm oq hz hS => ?_)
  refine lv_aload_n hx hb dX12_empty_15 rfl (lv_at hl 0 rfl) ?_
  refine lv_bipush (v := 60) hx hb dX12_empty_16 (by decide) ?_
  refine hw_put (v := .int 60) (fs' := hw_LM rm ud_m 0 0 0 60 ln_m sm_m fi_m be_m rk_m rl_m rw_m cl_m dg_m) hx hb fp_41_11 hK hH vm (Nat.le_of_ble_eq_true rfl) rfl rfl rfl (fun _ => by rw [G0]; exact ⟨rm, ud_m, 0, 0, 0, 60, ln_m, sm_m, fi_m, be_m, rk_m, rl_m, rw_m, cl_m, dg_m, rfl, Rm, ⟨by first | decide | omega, by first | decide | omega⟩, ⟨by first | decide | omega, by first | decide | omega⟩, ⟨by first | decide | omega, by first | decide | omega⟩, ⟨by first | decide | omega, by first | decide | omega⟩, ⟨by first | decide | omega, by first | decide | omega⟩, ⟨by first | decide | omega, by first | decide | omega⟩, ⟨by first | decide | omega, by first | decide | omega⟩, ⟨by first | decide | omega, by first | decide | omega⟩, ⟨by first | decide | omega, by first | decide | omega⟩, ⟨by first | decide | omega, by first | decide | omega⟩, ⟨by first | decide | omega, by first | decide | omega⟩, ⟨by first | decide | omega, by first | decide | omega⟩⟩) hS (hw_AWi G0 (by decide)) dX12_empty_18 (fun H locs hH vm oq hz hS => ?_)
  exact hw_vretM hx hb hr hlocks hQ hS (⟨0, 0, 0, 60, rfl, hH, vm, ⟨by first | decide | omega, by first | decide | omega⟩, ⟨by first | decide | omega, by first | decide | omega⟩, ⟨by first | decide | omega, by first | decide | omega⟩, (by first | rfl | trivial | assumption | omega | (intros; first | rfl | assumption | omega | (exfalso; omega))), (by first | rfl | trivial | assumption | omega | (intros; first | rfl | assumption | omega | (exfalso; omega))), (by first | rfl | trivial | assumption | omega | (intros; first | rfl | assumption | omega | (exfalso; omega)))⟩) dX12_empty_21

set_option maxHeartbeats 4000000 in
set_option maxRecDepth 100000 in
theorem k_X12_kindHere (l : Launch) (D : hw_D) (G : Nat → Nat) (h0 : Nat) (sz : Nat) (rm : Nat → Nat) (ud_m ky_m lo_m wk_m dk_m ln_m sm_m fi_m be_m rk_m rl_m rw_m cl_m dg_m : Int32) (G0 : G h0 = 9) (Rm : hw_RM G rm) (gud_m : 0 ≤ ud_m.toInt ∧ ud_m.toInt ≤ 8) (gky_m : 0 ≤ ky_m.toInt ∧ ky_m.toInt ≤ 7) (glo_m : 0 ≤ lo_m.toInt ∧ lo_m.toInt ≤ 7) (gwk_m : 0 ≤ wk_m.toInt ∧ wk_m.toInt ≤ 3) (gln_m : 0 ≤ ln_m.toInt ∧ ln_m.toInt ≤ 200) (gsm_m : 0 ≤ sm_m.toInt ∧ sm_m.toInt ≤ 6) (gfi_m : 0 ≤ fi_m.toInt ∧ fi_m.toInt ≤ 200) (gbe_m : 0 ≤ be_m.toInt ∧ be_m.toInt ≤ 200) (grk_m : 0 ≤ rk_m.toInt ∧ rk_m.toInt ≤ 7) (grl_m : 0 ≤ rl_m.toInt ∧ rl_m.toInt ≤ 7) (grw_m : 0 ≤ rw_m.toInt ∧ rw_m.toInt ≤ 3) (gdg_m : 0 ≤ dg_m.toInt ∧ dg_m.toInt ≤ 1) : Met l yX12_kindHere wsX12_kindHere ({ frames := 1, cells := 0, slots := 0, locals := 23 } : Room) (hw_PC D G [.ref h0] sz (fun H => va_at D.1 vwCl (h0, .inr (11, hw_LM rm ud_m ky_m lo_m wk_m dk_m ln_m sm_m fi_m be_m rk_m rl_m rw_m cl_m dg_m)) H)) (hw_QR (fun v => (v = .int (-1)) ∨ (∃ (r : Int32), v = .int r ∧ (0 ≤ r.toInt ∧ r.toInt ≤ 3) ∧ 5 ≤ be_m.toInt - fi_m.toInt))) 0 0 (fun _ => False) := by
  refine hw_met (cc := cX12_kindHere) (maxL := 1) (ret := (some .int)) (plainFor_of_name (by decide)) rfl (Nat.le_of_ble_eq_true rfl) ?_
  intro p e s m args below meth c QQ ls hsz hx hb hml hr hts hown hlocks hnm hH hK hST hF hQ hl
  subst hsz
  have hS : va_S (hw_AW G [] s.heap.size) s.heap s.heap [] := va_S.rf
  have vm := hF
  have hl : lv_has ls 1 [(0, .ref h0)] := hl
  have u_11 : ∀ w ∈ u_ws RX12 TX12 45, w.before args s = true := fun w hw => hts w ((by decide +kernel : ∀ w ∈ u_ws RX12 TX12 45, w ∈ wsX12_kindHere) w hw)
  have fg_57_11 : hw_FG s args m 57 11 28 := ⟨RX12, "WardWalkersModel", RX12, TX12, 45, u_11, hown, rfl, by decide, (hts (.fieldLink RX12 57 "WardWalkersModel" "brassWord" "[I") (by decide +kernel)), (fun _ h9 => h9)⟩
  have fg_60_11 : hw_FG s args m 60 11 29 := ⟨RX12, "WardWalkersModel", RX12, TX12, 45, u_11, hown, rfl, by decide, (hts (.fieldLink RX12 60 "WardWalkersModel" "rustyWord" "[I") (by decide +kernel)), (fun _ h9 => h9)⟩
  have fg_63_11 : hw_FG s args m 63 11 30 := ⟨RX12, "WardWalkersModel", RX12, TX12, 45, u_11, hown, rfl, by decide, (hts (.fieldLink RX12 63 "WardWalkersModel" "masterWord" "[I") (by decide +kernel)), (fun _ h9 => h9)⟩
  have fg_66_11 : hw_FG s args m 66 11 31 := ⟨RX12, "WardWalkersModel", RX12, TX12, 45, u_11, hown, rfl, by decide, (hts (.fieldLink RX12 66 "WardWalkersModel" "filedWord" "[I") (by decide +kernel)), (fun _ h9 => h9)⟩
  refine lv_aload_n hx hb dX12_kindHere_0 rfl (lv_at hl 0 rfl) ?_
  refine lv_aload_n hx hb dX12_kindHere_1 rfl (lv_at hl 0 rfl) ?_
  refine hw_get hx hb fg_57_11 hK vm rfl dX12_kindHere_2 ?_
  refine hw_cR (va_runV (As := [.ref (rm 28)]) (rest := []) ⟨hx, hb, hml, hown, hts⟩ (k_X12_isWord68 l D G h0 (rm 28) _ rm ud_m ky_m lo_m wk_m dk_m ln_m sm_m fi_m be_m rk_m rl_m rw_m cl_m dg_m G0 (hw_RM_28 Rm) Rm ⟨by first | decide | omega, by first | decide | omega⟩ ⟨by first | decide | omega, by first | decide | omega⟩ ⟨by first | decide | omega, by first | decide | omega⟩ ⟨by first | decide | omega, by first | decide | omega⟩ ⟨by first | decide | omega, by first | decide | omega⟩ ⟨by first | decide | omega, by first | decide | omega⟩ ⟨by first | decide | omega, by first | decide | omega⟩ ⟨by first | decide | omega, by first | decide | omega⟩ ⟨by first | decide | omega, by first | decide | omega⟩ ⟨by first | decide | omega, by first | decide | omega⟩ ⟨by first | decide | omega, by first | decide | omega⟩ ⟨by first | decide | omega, by first | decide | omega⟩) (cwV 1 hts gX12_kindHere_X12_isWord rfl rfl rfl (by decide +kernel) ⟨Nat.le_of_ble_eq_true rfl, Nat.le_of_ble_eq_true rfl⟩) (hw_pV (hw_rc (q := (RX12, TX12, 45)) hK vm rfl) hH hK hST hS (by decide) (fun _ h => Or.inl h) vm) rfl rfl hl.1 rfl (lv_room (Nat.le_of_ble_eq_true rfl)) dX12_kindHere_5 ⟨Nat.le_of_ble_eq_true rfl, Nat.le_of_ble_eq_true rfl⟩) (fun v hp => ?_)
  rcases hp with rfl | ⟨rfl, q1⟩
  · refine lv_if_eq (tgt := 15) hx hb dX12_kindHere_8 (by decide) (fun c2 => ?_) (fun c2 => ?_)
    · refine lv_aload_n hx hb dX12_kindHere_15 rfl (lv_at hl 0 rfl) ?_
      refine lv_aload_n hx hb dX12_kindHere_16 rfl (lv_at hl 0 rfl) ?_
      refine hw_get hx hb fg_60_11 hK vm rfl dX12_kindHere_17 ?_
      refine hw_cR (va_runV (As := [.ref (rm 29)]) (rest := []) ⟨hx, hb, hml, hown, hts⟩ (k_X12_isWord69 l D G h0 (rm 29) _ rm ud_m ky_m lo_m wk_m dk_m ln_m sm_m fi_m be_m rk_m rl_m rw_m cl_m dg_m G0 (hw_RM_29 Rm) Rm ⟨by first | decide | omega, by first | decide | omega⟩ ⟨by first | decide | omega, by first | decide | omega⟩ ⟨by first | decide | omega, by first | decide | omega⟩ ⟨by first | decide | omega, by first | decide | omega⟩ ⟨by first | decide | omega, by first | decide | omega⟩ ⟨by first | decide | omega, by first | decide | omega⟩ ⟨by first | decide | omega, by first | decide | omega⟩ ⟨by first | decide | omega, by first | decide | omega⟩ ⟨by first | decide | omega, by first | decide | omega⟩ ⟨by first | decide | omega, by first | decide | omega⟩ ⟨by first | decide | omega, by first | decide | omega⟩ ⟨by first | decide | omega, by first | decide | omega⟩) (cwV 1 hts gX12_kindHere_X12_isWord rfl rfl rfl (by decide +kernel) ⟨Nat.le_of_ble_eq_true rfl, Nat.le_of_ble_eq_true rfl⟩) (hw_pV (hw_rc (q := (RX12, TX12, 45)) hK vm rfl) hH hK hST hS (by decide) (fun _ h => Or.inl h) vm) rfl rfl hl.1 rfl (lv_room (Nat.le_of_ble_eq_true rfl)) dX12_kindHere_20 ⟨Nat.le_of_ble_eq_true rfl, Nat.le_of_ble_eq_true rfl⟩) (fun v hp => ?_)
      rcases hp with rfl | ⟨rfl, q3⟩
      · refine lv_if_eq (tgt := 30) hx hb dX12_kindHere_23 (by decide) (fun c4 => ?_) (fun c4 => ?_)
        · refine lv_aload_n hx hb dX12_kindHere_30 rfl (lv_at hl 0 rfl) ?_
          refine lv_aload_n hx hb dX12_kindHere_31 rfl (lv_at hl 0 rfl) ?_
          refine hw_get hx hb fg_63_11 hK vm rfl dX12_kindHere_32 ?_
          refine hw_cR (va_runV (As := [.ref (rm 30)]) (rest := []) ⟨hx, hb, hml, hown, hts⟩ (k_X12_isWord70 l D G h0 (rm 30) _ rm ud_m ky_m lo_m wk_m dk_m ln_m sm_m fi_m be_m rk_m rl_m rw_m cl_m dg_m G0 (hw_RM_30 Rm) Rm ⟨by first | decide | omega, by first | decide | omega⟩ ⟨by first | decide | omega, by first | decide | omega⟩ ⟨by first | decide | omega, by first | decide | omega⟩ ⟨by first | decide | omega, by first | decide | omega⟩ ⟨by first | decide | omega, by first | decide | omega⟩ ⟨by first | decide | omega, by first | decide | omega⟩ ⟨by first | decide | omega, by first | decide | omega⟩ ⟨by first | decide | omega, by first | decide | omega⟩ ⟨by first | decide | omega, by first | decide | omega⟩ ⟨by first | decide | omega, by first | decide | omega⟩ ⟨by first | decide | omega, by first | decide | omega⟩ ⟨by first | decide | omega, by first | decide | omega⟩) (cwV 1 hts gX12_kindHere_X12_isWord rfl rfl rfl (by decide +kernel) ⟨Nat.le_of_ble_eq_true rfl, Nat.le_of_ble_eq_true rfl⟩) (hw_pV (hw_rc (q := (RX12, TX12, 45)) hK vm rfl) hH hK hST hS (by decide) (fun _ h => Or.inl h) vm) rfl rfl hl.1 rfl (lv_room (Nat.le_of_ble_eq_true rfl)) dX12_kindHere_35 ⟨Nat.le_of_ble_eq_true rfl, Nat.le_of_ble_eq_true rfl⟩) (fun v hp => ?_)
          rcases hp with rfl | ⟨rfl, q5⟩
          · refine lv_if_eq (tgt := 45) hx hb dX12_kindHere_38 (by decide) (fun c6 => ?_) (fun c6 => ?_)
            · refine lv_aload_n hx hb dX12_kindHere_45 rfl (lv_at hl 0 rfl) ?_
              refine lv_aload_n hx hb dX12_kindHere_46 rfl (lv_at hl 0 rfl) ?_
              refine hw_get hx hb fg_66_11 hK vm rfl dX12_kindHere_47 ?_
              refine hw_cR (va_runV (As := [.ref (rm 31)]) (rest := []) ⟨hx, hb, hml, hown, hts⟩ (k_X12_isWord71 l D G h0 (rm 31) _ rm ud_m ky_m lo_m wk_m dk_m ln_m sm_m fi_m be_m rk_m rl_m rw_m cl_m dg_m G0 (hw_RM_31 Rm) Rm ⟨by first | decide | omega, by first | decide | omega⟩ ⟨by first | decide | omega, by first | decide | omega⟩ ⟨by first | decide | omega, by first | decide | omega⟩ ⟨by first | decide | omega, by first | decide | omega⟩ ⟨by first | decide | omega, by first | decide | omega⟩ ⟨by first | decide | omega, by first | decide | omega⟩ ⟨by first | decide | omega, by first | decide | omega⟩ ⟨by first | decide | omega, by first | decide | omega⟩ ⟨by first | decide | omega, by first | decide | omega⟩ ⟨by first | decide | omega, by first | decide | omega⟩ ⟨by first | decide | omega, by first | decide | omega⟩ ⟨by first | decide | omega, by first | decide | omega⟩) (cwV 1 hts gX12_kindHere_X12_isWord rfl rfl rfl (by decide +kernel) ⟨Nat.le_of_ble_eq_true rfl, Nat.le_of_ble_eq_true rfl⟩) (hw_pV (hw_rc (q := (RX12, TX12, 45)) hK vm rfl) hH hK hST hS (by decide) (fun _ h => Or.inl h) vm) rfl rfl hl.1 rfl (lv_room (Nat.le_of_ble_eq_true rfl)) dX12_kindHere_50 ⟨Nat.le_of_ble_eq_true rfl, Nat.le_of_ble_eq_true rfl⟩) (fun v hp => ?_)
              rcases hp with rfl | ⟨rfl, q7⟩
              · refine lv_if_eq (tgt := 60) hx hb dX12_kindHere_53 (by decide) (fun c8 => ?_) (fun c8 => ?_)
                · refine lv_iconst (v := (-1)) hx hb dX12_kindHere_60 (by decide) ?_
                  exact hw_iretR (v := (-1)) hx hb hr hlocks hQ rfl (Or.inl rfl) dX12_kindHere_61
                · exact absurd c8 (by decide)
              · refine lv_if_eq (tgt := 60) hx hb dX12_kindHere_53 (by decide) (fun c9 => ?_) (fun c9 => ?_)
                · exact absurd c9 (by decide)
                · refine lv_iconst (v := 3) hx hb dX12_kindHere_56 (by decide) ?_
                  refine lv_goto (tgt := 61) hx hb dX12_kindHere_57 (by decide) ?_
                  exact hw_iretR (v := 3) hx hb hr hlocks hQ rfl (Or.inr (⟨3, rfl, ⟨by first | decide | omega, by first | decide | omega⟩, (by first | rfl | trivial | assumption | omega | (intros; first | rfl | assumption | omega | (exfalso; omega)))⟩)) dX12_kindHere_61
            · exact absurd c6 (by decide)
          · refine lv_if_eq (tgt := 45) hx hb dX12_kindHere_38 (by decide) (fun c10 => ?_) (fun c10 => ?_)
            · exact absurd c10 (by decide)
            · refine lv_iconst (v := 2) hx hb dX12_kindHere_41 (by decide) ?_
              refine lv_goto (tgt := 61) hx hb dX12_kindHere_42 (by decide) ?_
              exact hw_iretR (v := 2) hx hb hr hlocks hQ rfl (Or.inr (⟨2, rfl, ⟨by first | decide | omega, by first | decide | omega⟩, (by first | rfl | trivial | assumption | omega | (intros; first | rfl | assumption | omega | (exfalso; omega)))⟩)) dX12_kindHere_61
        · exact absurd c4 (by decide)
      · refine lv_if_eq (tgt := 30) hx hb dX12_kindHere_23 (by decide) (fun c11 => ?_) (fun c11 => ?_)
        · exact absurd c11 (by decide)
        · refine lv_iconst (v := 1) hx hb dX12_kindHere_26 (by decide) ?_
          refine lv_goto (tgt := 61) hx hb dX12_kindHere_27 (by decide) ?_
          exact hw_iretR (v := 1) hx hb hr hlocks hQ rfl (Or.inr (⟨1, rfl, ⟨by first | decide | omega, by first | decide | omega⟩, (by first | rfl | trivial | assumption | omega | (intros; first | rfl | assumption | omega | (exfalso; omega)))⟩)) dX12_kindHere_61
    · exact absurd c2 (by decide)
  · refine lv_if_eq (tgt := 15) hx hb dX12_kindHere_8 (by decide) (fun c12 => ?_) (fun c12 => ?_)
    · exact absurd c12 (by decide)
    · refine lv_iconst (v := 0) hx hb dX12_kindHere_11 (by decide) ?_
      refine lv_goto (tgt := 61) hx hb dX12_kindHere_12 (by decide) ?_
      exact hw_iretR (v := 0) hx hb hr hlocks hQ rfl (Or.inr (⟨0, rfl, ⟨by first | decide | omega, by first | decide | omega⟩, (by first | rfl | trivial | assumption | omega | (intros; first | rfl | assumption | omega | (exfalso; omega)))⟩)) dX12_kindHere_61

set_option maxHeartbeats 4000000 in
set_option maxRecDepth 100000 in
theorem k_X12_readsKey (l : Launch) (D : hw_D) (G : Nat → Nat) (h0 : Nat) (p1 : Int32) (sz : Nat) (rm : Nat → Nat) (ud_m ky_m lo_m wk_m dk_m ln_m sm_m fi_m be_m rk_m rl_m rw_m cl_m dg_m : Int32) (G0 : G h0 = 9) (Rm : hw_RM G rm) (gud_m : 0 ≤ ud_m.toInt ∧ ud_m.toInt ≤ 8) (gky_m : 0 ≤ ky_m.toInt ∧ ky_m.toInt ≤ 7) (glo_m : 0 ≤ lo_m.toInt ∧ lo_m.toInt ≤ 7) (gwk_m : 0 ≤ wk_m.toInt ∧ wk_m.toInt ≤ 3) (gln_m : 0 ≤ ln_m.toInt ∧ ln_m.toInt ≤ 200) (gsm_m : 0 ≤ sm_m.toInt ∧ sm_m.toInt ≤ 6) (gfi_m : 0 ≤ fi_m.toInt ∧ fi_m.toInt ≤ 200) (gbe_m : 0 ≤ be_m.toInt ∧ be_m.toInt ≤ 200) (grk_m : 0 ≤ rk_m.toInt ∧ rk_m.toInt ≤ 7) (grl_m : 0 ≤ rl_m.toInt ∧ rl_m.toInt ≤ 7) (grw_m : 0 ≤ rw_m.toInt ∧ rw_m.toInt ≤ 3) (gdg_m : 0 ≤ dg_m.toInt ∧ dg_m.toInt ≤ 1) (hf : fi_m.toInt ≤ ln_m.toInt) (hb : be_m.toInt ≤ ln_m.toInt) (hd1 : dg_m.toInt = 1 → ky_m.toInt = rk_m.toInt) : Met l yX12_readsKey wsX12_readsKey ({ frames := 4, cells := 0, slots := 0, locals := 90 } : Room) (hw_PC D G [.ref h0, .int p1] sz (fun H => va_at D.1 vwCl (h0, .inr (11, hw_LM rm ud_m ky_m lo_m wk_m dk_m ln_m sm_m fi_m be_m rk_m rl_m rw_m cl_m dg_m)) H)) (hw_QM (fun v H => (∃ (fi_m2 : Int32) (be_m2 : Int32) (rk_m2 : Int32) (ky_m2 : Int32), v = some (.int 0) ∧ hw_HT D G H ∧ va_at D.1 vwCl (h0, .inr (11, hw_LM rm ud_m ky_m2 lo_m wk_m dk_m ln_m sm_m fi_m2 be_m2 rk_m2 rl_m rw_m cl_m dg_m)) H ∧ (0 ≤ fi_m2.toInt ∧ fi_m2.toInt ≤ 200) ∧ (0 ≤ be_m2.toInt ∧ be_m2.toInt ≤ 200) ∧ (0 ≤ rk_m2.toInt ∧ rk_m2.toInt ≤ 7) ∧ (0 ≤ ky_m2.toInt ∧ ky_m2.toInt ≤ 7) ∧ be_m2.toInt ≤ ln_m.toInt ∧ fi_m2.toInt ≤ ln_m.toInt ∧ (dg_m.toInt = 1 → ky_m2.toInt = rk_m2.toInt)) ∨ (∃ (fi_m2 : Int32) (be_m2 : Int32) (rk_m2 : Int32) (ky_m2 : Int32), v = some (.int 1) ∧ hw_HT D G H ∧ va_at D.1 vwCl (h0, .inr (11, hw_LM rm ud_m ky_m2 lo_m wk_m dk_m ln_m sm_m fi_m2 be_m2 rk_m2 rl_m rw_m cl_m dg_m)) H ∧ (0 ≤ fi_m2.toInt ∧ fi_m2.toInt ≤ 200) ∧ (0 ≤ be_m2.toInt ∧ be_m2.toInt ≤ 200) ∧ (0 ≤ rk_m2.toInt ∧ rk_m2.toInt ≤ 7) ∧ (0 ≤ ky_m2.toInt ∧ ky_m2.toInt ≤ 7) ∧ be_m2.toInt ≤ ln_m.toInt ∧ fi_m2.toInt ≤ ln_m.toInt ∧ (dg_m.toInt = 1 → ky_m2.toInt = rk_m2.toInt))) (hw_AW G [9, 44, 45, 46, 67] sz)) 0 0 (hw_AW G [9, 44, 45, 46, 67] sz) := by
  refine hw_met (cc := cX12_readsKey) (maxL := 2) (ret := (some .boolean)) (plainFor_of_name (by decide)) rfl (Nat.le_of_ble_eq_true rfl) ?_
  intro p e s m args below meth c QQ ls hsz hx hb hml hr hts hown hlocks hnm hH hK hST hF hQ hl
  subst hsz
  have hS : va_S (hw_AW G [9, 44, 45, 46, 67] s.heap.size) s.heap s.heap [] := va_S.rf
  have vm := hF
  have hl : lv_has ls 2 [(0, .ref h0), (1, .int p1)] := hl
  have u_11 : ∀ w ∈ u_ws RX12 TX12 45, w.before args s = true := fun w hw => hts w ((by decide +kernel : ∀ w ∈ u_ws RX12 TX12 45, w ∈ wsX12_readsKey) w hw)
  have fg_155_11 : hw_FG s args m 155 11 22 := ⟨RX12, "WardWalkersModel", RX12, TX12, 45, u_11, hown, rfl, by decide, (hts (.fieldLink RX12 155 "WardWalkersModel" "readKeys" "I") (by decide +kernel)), (fun _ h9 => h9)⟩
  have fg_54_11 : hw_FG s args m 54 11 27 := ⟨RX12, "WardWalkersModel", RX12, TX12, 45, u_11, hown, rfl, by decide, (hts (.fieldLink RX12 54 "WardWalkersModel" "numbers" "[I") (by decide +kernel)), (fun _ h9 => h9)⟩
  have fp_155_11 : hw_FP s args m 155 11 22 false .int := ⟨RX12, "WardWalkersModel", RX12, TX12, 45, tyX12, u_11, hown, rfl, by decide, (hts (.fieldLink RX12 155 "WardWalkersModel" "readKeys" "I") (by decide +kernel)), (fun _ h9 => h9), tyX12_ok, nmX12, rfl, (fun h => by cases h), by decide +kernel⟩
  have fg_162_11 : hw_FG s args m 162 11 26 := ⟨RX12, "WardWalkersModel", RX12, TX12, 45, u_11, hown, rfl, by decide, (hts (.fieldLink RX12 162 "WardWalkersModel" "doing" "Z") (by decide +kernel)), (fun _ h9 => h9)⟩
  have fg_17_11 : hw_FG s args m 17 11 4 := ⟨RX12, "WardWalkersModel", RX12, TX12, 45, u_11, hown, rfl, by decide, (hts (.fieldLink RX12 17 "WardWalkersModel" "kinds" "[I") (by decide +kernel)), (fun _ h9 => h9)⟩
  have fg_142_11 : hw_FG s args m 142 11 3 := ⟨RX12, "WardWalkersModel", RX12, TX12, 45, u_11, hown, rfl, by decide, (hts (.fieldLink RX12 142 "WardWalkersModel" "keys" "I") (by decide +kernel)), (fun _ h9 => h9)⟩
  have fg_20_11 : hw_FG s args m 20 11 5 := ⟨RX12, "WardWalkersModel", RX12, TX12, 45, u_11, hown, rfl, by decide, (hts (.fieldLink RX12 20 "WardWalkersModel" "keyCuts" "[I") (by decide +kernel)), (fun _ h9 => h9)⟩
  have fg_23_11 : hw_FG s args m 23 11 6 := ⟨RX12, "WardWalkersModel", RX12, TX12, 45, u_11, hown, rfl, by decide, (hts (.fieldLink RX12 23 "WardWalkersModel" "marks" "[I") (by decide +kernel)), (fun _ h9 => h9)⟩
  have fp_142_11 : hw_FP s args m 142 11 3 false .int := ⟨RX12, "WardWalkersModel", RX12, TX12, 45, tyX12, u_11, hown, rfl, by decide, (hts (.fieldLink RX12 142 "WardWalkersModel" "keys" "I") (by decide +kernel)), (fun _ h9 => h9), tyX12_ok, nmX12, rfl, (fun h => by cases h), by decide +kernel⟩
  refine lv_aload_n hx hb dX12_readsKey_0 rfl (lv_at hl 0 rfl) ?_
  refine hw_get hx hb fg_155_11 hK vm rfl dX12_readsKey_1 ?_
  refine lv_bipush (v := 7) hx hb dX12_readsKey_4 (by decide) ?_
  refine lv_icmp_ne (tgt := 11) hx hb dX12_readsKey_6 (by decide) (fun c1 => ?_) (fun c1 => ?_)
  · have b2 : rk_m.toInt ≠ 7 := hw_ine c1
    refine lv_aload_n hx hb dX12_readsKey_11 rfl (lv_at hl 0 rfl) ?_
    refine hw_cM0 (va_runV (As := []) (rest := []) ⟨hx, hb, hml, hown, hts⟩ (k_X12_nextToken l D G h0 _ rm ud_m ky_m lo_m wk_m dk_m ln_m sm_m fi_m be_m rk_m rl_m rw_m cl_m dg_m G0 Rm ⟨by first | decide | omega, by first | decide | omega⟩ ⟨by first | decide | omega, by first | decide | omega⟩ ⟨by first | decide | omega, by first | decide | omega⟩ ⟨by first | decide | omega, by first | decide | omega⟩ ⟨by first | decide | omega, by first | decide | omega⟩ ⟨by first | decide | omega, by first | decide | omega⟩ ⟨by first | decide | omega, by first | decide | omega⟩ ⟨by first | decide | omega, by first | decide | omega⟩ ⟨by first | decide | omega, by first | decide | omega⟩ ⟨by first | decide | omega, by first | decide | omega⟩ ⟨by first | decide | omega, by first | decide | omega⟩ ⟨by first | decide | omega, by first | decide | omega⟩) (cwV 0 hts gX12_readsKey_X12_nextToken rfl rfl rfl (by decide +kernel) ⟨Nat.le_of_ble_eq_true rfl, Nat.le_of_ble_eq_true rfl⟩) (hw_pV (hw_rc (q := (RX12, TX12, 45)) hK vm rfl) hH hK hST hS (by decide) (fun _ h => Or.inl h) vm) rfl rfl hl.1 rfl (lv_room (Nat.le_of_ble_eq_true rfl)) dX12_readsKey_12 ⟨Nat.le_of_ble_eq_true rfl, Nat.le_of_ble_eq_true rfl⟩) hS (hw_AWsub (by decide) (fun _ _ => rfl) hS.1) (fun v H locs hp hz hk hS => ?_)
    obtain ⟨x3, x4, rfl, hH, v5, g6, g7, q8, q9, q10⟩ := hp
    refine lv_aload_n hx hb dX12_readsKey_15 rfl (lv_at hl 0 rfl) ?_
    refine hw_get hx hb fg_54_11 hK v5 rfl dX12_readsKey_16 ?_
    refine lv_iconst (v := 1) hx hb dX12_readsKey_19 (by decide) ?_
    refine lv_iconst (v := 0) hx hb dX12_readsKey_20 (by decide) ?_
    obtain ⟨f11, v12⟩ := hH.a67 (hw_RM_27 Rm)
    refine hw_iast hx hb hK hH v12 (hw_in (x := 1) (by decide) (by decide)) (fun _ => by rw [(hw_RM_27 Rm)]; exact ⟨_, rfl⟩) hS (hw_AWi (hw_RM_27 Rm) (by decide)) dX12_readsKey_21 (fun H locs hH v12 oq hz hS => ?_)
    have v5 := va_at.kept v5 (oq _ (hw_ne G0 (hw_RM_27 Rm) (by decide)))
    refine lv_aload_n hx hb dX12_readsKey_22 rfl (lv_at hl 0 rfl) ?_
    refine lv_iconst (v := 0) hx hb dX12_readsKey_23 (by decide) ?_
    refine lv_iconst (v := 0) hx hb dX12_readsKey_24 (by decide) ?_
    refine lv_sipush (v := 511) hx hb dX12_readsKey_25 (by decide) ?_
    refine hw_cM0 (va_runV (As := [.int 0, .int 0, .int 511]) (rest := []) ⟨hx, hb, hml, hown, hts⟩ (k_X12_number l D G h0 0 0 511 _ rm ud_m ky_m lo_m wk_m dk_m ln_m sm_m x3 x4 rk_m rl_m rw_m cl_m dg_m G0 Rm ⟨by first | decide | omega, by first | decide | omega⟩ ⟨by first | decide | omega, by first | decide | omega⟩ ⟨by first | decide | omega, by first | decide | omega⟩ ⟨by first | decide | omega, by first | decide | omega⟩ ⟨by first | decide | omega, by first | decide | omega⟩ ⟨by first | decide | omega, by first | decide | omega⟩ ⟨by first | decide | omega, by first | decide | omega⟩ ⟨by first | decide | omega, by first | decide | omega⟩ ⟨by first | decide | omega, by first | decide | omega⟩ ⟨by first | decide | omega, by first | decide | omega⟩ ⟨by first | decide | omega, by first | decide | omega⟩ ⟨by first | decide | omega, by first | decide | omega⟩ (by first | assumption | decide | omega) (by first | assumption | decide | omega) (by first | assumption | decide | omega)) (cwV 3 hts gX12_readsKey_X12_number rfl rfl rfl (by decide +kernel) ⟨Nat.le_of_ble_eq_true rfl, Nat.le_of_ble_eq_true rfl⟩) (hw_pV (hw_rc (q := (RX12, TX12, 45)) hK v5 rfl) hH hK hST hS (by decide) (fun _ h => Or.inl h) v5) rfl rfl hl.1 rfl (lv_room (Nat.le_of_ble_eq_true rfl)) dX12_readsKey_28 ⟨Nat.le_of_ble_eq_true rfl, Nat.le_of_ble_eq_true rfl⟩) hS (hw_AWsub (by decide) (fun _ _ => rfl) hS.1) (fun v H locs hp hz hk hS => ?_)
    have l14 : (0 : Int32).toInt = 0 := rfl
    have l15 : (0 : Int32).toInt = 0 := rfl
    have l16 : (511 : Int32).toInt = 511 := rfl
    rcases hp with ⟨x17, x18, rfl, hH, v19, g20, g21, q22, q23⟩ | ⟨x24, x25, rfl, hH, v26, g27, g28, q29, q30⟩
    · refine lv_if_eq (tgt := 55) hx hb dX12_readsKey_31 (by decide) (fun c31 => ?_) (fun c31 => ?_)
      · refine lv_iconst (v := 0) hx hb dX12_readsKey_55 (by decide) ?_
        exact hw_iretM (v := 0) hx hb hr hlocks hQ hS rfl (Or.inl ⟨x17, x18, rk_m, ky_m, rfl, hH, v19, ⟨by first | decide | omega, by first | decide | omega⟩, ⟨by first | decide | omega, by first | decide | omega⟩, ⟨by first | decide | omega, by first | decide | omega⟩, ⟨by first | decide | omega, by first | decide | omega⟩, (by first | rfl | trivial | assumption | omega | (intros; first | rfl | assumption | omega | (exfalso; omega))), (by first | rfl | trivial | assumption | omega | (intros; first | rfl | assumption | omega | (exfalso; omega))), (by first | rfl | trivial | assumption | omega | (intros; first | rfl | assumption | omega | (exfalso; omega)))⟩) dX12_readsKey_56
      · exact absurd c31 (by decide)
    · refine lv_if_eq (tgt := 55) hx hb dX12_readsKey_31 (by decide) (fun c32 => ?_) (fun c32 => ?_)
      · exact absurd c32 (by decide)
      · refine lv_iload_n hx hb dX12_readsKey_34 rfl (lv_at hl 1 rfl) ?_
        refine lv_iconst (v := 1) hx hb dX12_readsKey_35 (by decide) ?_
        refine lv_icmp_eq (tgt := 44) hx hb dX12_readsKey_36 (by decide) (fun c33 => ?_) (fun c33 => ?_)
        · have b34 : p1.toInt = 1 := hw_ieq c33
          refine lv_aload_n hx hb dX12_readsKey_44 rfl (lv_at hl 0 rfl) ?_
          refine lv_iconst (v := 1) hx hb dX12_readsKey_45 (by decide) ?_
          refine lv_iconst (v := 0) hx hb dX12_readsKey_46 (by decide) ?_
          refine lv_bipush (v := 9) hx hb dX12_readsKey_47 (by decide) ?_
          refine hw_cM0 (va_runV (As := [.int 1, .int 0, .int 9]) (rest := []) ⟨hx, hb, hml, hown, hts⟩ (k_X12_number l D G h0 1 0 9 _ rm ud_m ky_m lo_m wk_m dk_m ln_m sm_m x24 x25 rk_m rl_m rw_m cl_m dg_m G0 Rm ⟨by first | decide | omega, by first | decide | omega⟩ ⟨by first | decide | omega, by first | decide | omega⟩ ⟨by first | decide | omega, by first | decide | omega⟩ ⟨by first | decide | omega, by first | decide | omega⟩ ⟨by first | decide | omega, by first | decide | omega⟩ ⟨by first | decide | omega, by first | decide | omega⟩ ⟨by first | decide | omega, by first | decide | omega⟩ ⟨by first | decide | omega, by first | decide | omega⟩ ⟨by first | decide | omega, by first | decide | omega⟩ ⟨by first | decide | omega, by first | decide | omega⟩ ⟨by first | decide | omega, by first | decide | omega⟩ ⟨by first | decide | omega, by first | decide | omega⟩ (by first | assumption | decide | omega) (by first | assumption | decide | omega) (by first | assumption | decide | omega)) (cwV 3 hts gX12_readsKey_X12_number rfl rfl rfl (by decide +kernel) ⟨Nat.le_of_ble_eq_true rfl, Nat.le_of_ble_eq_true rfl⟩) (hw_pV (hw_rc (q := (RX12, TX12, 45)) hK v26 rfl) hH hK hST hS (by decide) (fun _ h => Or.inl h) v26) rfl rfl hl.1 rfl (lv_room (Nat.le_of_ble_eq_true rfl)) dX12_readsKey_49 ⟨Nat.le_of_ble_eq_true rfl, Nat.le_of_ble_eq_true rfl⟩) hS (hw_AWsub (by decide) (fun _ _ => rfl) hS.1) (fun v H locs hp hz hk hS => ?_)
          have l35 : (1 : Int32).toInt = 1 := rfl
          have l36 : (0 : Int32).toInt = 0 := rfl
          have l37 : (9 : Int32).toInt = 9 := rfl
          rcases hp with ⟨x38, x39, rfl, hH, v40, g41, g42, q43, q44⟩ | ⟨x45, x46, rfl, hH, v47, g48, g49, q50, q51⟩
          · refine lv_if_ne (tgt := 57) hx hb dX12_readsKey_52 (by decide) (fun c52 => ?_) (fun c52 => ?_)
            · exact absurd c52 (by decide)
            · refine lv_iconst (v := 0) hx hb dX12_readsKey_55 (by decide) ?_
              exact hw_iretM (v := 0) hx hb hr hlocks hQ hS rfl (Or.inl ⟨x38, x39, rk_m, ky_m, rfl, hH, v40, ⟨by first | decide | omega, by first | decide | omega⟩, ⟨by first | decide | omega, by first | decide | omega⟩, ⟨by first | decide | omega, by first | decide | omega⟩, ⟨by first | decide | omega, by first | decide | omega⟩, (by first | rfl | trivial | assumption | omega | (intros; first | rfl | assumption | omega | (exfalso; omega))), (by first | rfl | trivial | assumption | omega | (intros; first | rfl | assumption | omega | (exfalso; omega))), (by first | rfl | trivial | assumption | omega | (intros; first | rfl | assumption | omega | (exfalso; omega)))⟩) dX12_readsKey_56
          · refine lv_if_ne (tgt := 57) hx hb dX12_readsKey_52 (by decide) (fun c53 => ?_) (fun c53 => ?_)
            · refine lv_aload_n hx hb dX12_readsKey_57 rfl (lv_at hl 0 rfl) ?_
              refine lv_dup hx hb dX12_readsKey_58 rfl ?_
              refine hw_get hx hb fg_155_11 hK v47 rfl dX12_readsKey_59 ?_
              refine lv_iconst (v := 1) hx hb dX12_readsKey_62 (by decide) ?_
              refine lv_iadd hx hb dX12_readsKey_63 ?_
              refine lv_topi (fun x54 e55 => ?_)
              have t56 : x54.toInt = rk_m.toInt + 1 := by rw [e55]; exact hw_add rfl rfl (by omega) (by omega)
              refine hw_put (v := .int x54) (fs' := hw_LM rm ud_m ky_m lo_m wk_m dk_m ln_m sm_m x45 x46 x54 rl_m rw_m cl_m dg_m) hx hb fp_155_11 hK hH v47 (Nat.le_of_ble_eq_true rfl) rfl rfl rfl (fun _ => by rw [G0]; exact ⟨rm, ud_m, ky_m, lo_m, wk_m, dk_m, ln_m, sm_m, x45, x46, x54, rl_m, rw_m, cl_m, dg_m, rfl, Rm, ⟨by first | decide | omega, by first | decide | omega⟩, ⟨by first | decide | omega, by first | decide | omega⟩, ⟨by first | decide | omega, by first | decide | omega⟩, ⟨by first | decide | omega, by first | decide | omega⟩, ⟨by first | decide | omega, by first | decide | omega⟩, ⟨by first | decide | omega, by first | decide | omega⟩, ⟨by first | decide | omega, by first | decide | omega⟩, ⟨by first | decide | omega, by first | decide | omega⟩, ⟨by first | decide | omega, by first | decide | omega⟩, ⟨by first | decide | omega, by first | decide | omega⟩, ⟨by first | decide | omega, by first | decide | omega⟩, ⟨by first | decide | omega, by first | decide | omega⟩⟩) hS (hw_AWi G0 (by decide)) dX12_readsKey_64 (fun H locs hH v47 oq hz hS => ?_)
              refine lv_aload_n hx hb dX12_readsKey_67 rfl (lv_at hl 0 rfl) ?_
              refine hw_get hx hb fg_162_11 hK v47 rfl dX12_readsKey_68 ?_
              refine lv_if_eq (tgt := 124) hx hb dX12_readsKey_71 (by decide) (fun c57 => ?_) (fun c57 => ?_)
              · have b58 : dg_m.toInt = 0 := hw_ieq c57
                refine lv_iconst (v := 1) hx hb dX12_readsKey_124 (by decide) ?_
                exact hw_iretM (v := 1) hx hb hr hlocks hQ hS rfl (Or.inr (⟨x45, x46, x54, ky_m, rfl, hH, v47, ⟨by first | decide | omega, by first | decide | omega⟩, ⟨by first | decide | omega, by first | decide | omega⟩, ⟨by first | decide | omega, by first | decide | omega⟩, ⟨by first | decide | omega, by first | decide | omega⟩, (by first | rfl | trivial | assumption | omega | (intros; first | rfl | assumption | omega | (exfalso; omega))), (by first | rfl | trivial | assumption | omega | (intros; first | rfl | assumption | omega | (exfalso; omega))), (by first | rfl | trivial | assumption | omega | (intros; first | rfl | assumption | omega | (exfalso; omega)))⟩)) dX12_readsKey_125
              · have b59 : dg_m.toInt ≠ 0 := hw_ine c57
                refine lv_aload_n hx hb dX12_readsKey_74 rfl (lv_at hl 0 rfl) ?_
                refine hw_get hx hb fg_17_11 hK v47 rfl dX12_readsKey_75 ?_
                refine lv_aload_n hx hb dX12_readsKey_78 rfl (lv_at hl 0 rfl) ?_
                refine hw_get hx hb fg_142_11 hK v47 rfl dX12_readsKey_79 ?_
                refine lv_iload_n hx hb dX12_readsKey_82 rfl (lv_at hl 1 rfl) ?_
                obtain ⟨f60, v61⟩ := hH.a44 (hw_RM_4 Rm)
                refine hw_iast hx hb hK hH v61 (hw_in (by omega) (by omega)) (fun _ => by rw [(hw_RM_4 Rm)]; exact ⟨_, rfl⟩) hS (hw_AWi (hw_RM_4 Rm) (by decide)) dX12_readsKey_83 (fun H locs hH v61 oq hz hS => ?_)
                have v47 := va_at.kept v47 (oq _ (hw_ne G0 (hw_RM_4 Rm) (by decide)))
                refine lv_aload_n hx hb dX12_readsKey_84 rfl (lv_at hl 0 rfl) ?_
                refine hw_get hx hb fg_20_11 hK v47 rfl dX12_readsKey_85 ?_
                refine lv_aload_n hx hb dX12_readsKey_88 rfl (lv_at hl 0 rfl) ?_
                refine hw_get hx hb fg_142_11 hK v47 rfl dX12_readsKey_89 ?_
                refine lv_aload_n hx hb dX12_readsKey_92 rfl (lv_at hl 0 rfl) ?_
                refine hw_get hx hb fg_54_11 hK v47 rfl dX12_readsKey_93 ?_
                refine lv_iconst (v := 0) hx hb dX12_readsKey_96 (by decide) ?_
                obtain ⟨f63, v64⟩ := hH.a67 (hw_RM_27 Rm)
                refine hw_iald hx hb hK v64 (hw_in (x := 0) (by decide) (by decide)) dX12_readsKey_97 ?_
                refine lv_topi (fun x66 e67 => ?_)
                obtain ⟨f68, v69⟩ := hH.a45 (hw_RM_5 Rm)
                refine hw_iast hx hb hK hH v69 (hw_in (by omega) (by omega)) (fun _ => by rw [(hw_RM_5 Rm)]; exact ⟨_, rfl⟩) hS (hw_AWi (hw_RM_5 Rm) (by decide)) dX12_readsKey_98 (fun H locs hH v69 oq hz hS => ?_)
                have v47 := va_at.kept v47 (oq _ (hw_ne G0 (hw_RM_5 Rm) (by decide)))
                refine lv_aload_n hx hb dX12_readsKey_99 rfl (lv_at hl 0 rfl) ?_
                refine hw_get hx hb fg_23_11 hK v47 rfl dX12_readsKey_100 ?_
                refine lv_aload_n hx hb dX12_readsKey_103 rfl (lv_at hl 0 rfl) ?_
                refine hw_get hx hb fg_142_11 hK v47 rfl dX12_readsKey_104 ?_
                refine lv_aload_n hx hb dX12_readsKey_107 rfl (lv_at hl 0 rfl) ?_
                refine hw_get hx hb fg_54_11 hK v47 rfl dX12_readsKey_108 ?_
                refine lv_iconst (v := 1) hx hb dX12_readsKey_111 (by decide) ?_
                obtain ⟨f71, v72⟩ := hH.a67 (hw_RM_27 Rm)
                refine hw_iald hx hb hK v72 (hw_in (x := 1) (by decide) (by decide)) dX12_readsKey_112 ?_
                refine lv_topi (fun x74 e75 => ?_)
                obtain ⟨f76, v77⟩ := hH.a46 (hw_RM_6 Rm)
                refine hw_iast hx hb hK hH v77 (hw_in (by omega) (by omega)) (fun _ => by rw [(hw_RM_6 Rm)]; exact ⟨_, rfl⟩) hS (hw_AWi (hw_RM_6 Rm) (by decide)) dX12_readsKey_113 (fun H locs hH v77 oq hz hS => ?_)
                have v47 := va_at.kept v47 (oq _ (hw_ne G0 (hw_RM_6 Rm) (by decide)))
                refine lv_aload_n hx hb dX12_readsKey_114 rfl (lv_at hl 0 rfl) ?_
                refine lv_dup hx hb dX12_readsKey_115 rfl ?_
                refine hw_get hx hb fg_142_11 hK v47 rfl dX12_readsKey_116 ?_
                refine lv_iconst (v := 1) hx hb dX12_readsKey_119 (by decide) ?_
                refine lv_iadd hx hb dX12_readsKey_120 ?_
                refine lv_topi (fun x79 e80 => ?_)
                have t81 : x79.toInt = ky_m.toInt + 1 := by rw [e80]; exact hw_add rfl rfl (by omega) (by omega)
                refine hw_put (v := .int x79) (fs' := hw_LM rm ud_m x79 lo_m wk_m dk_m ln_m sm_m x45 x46 x54 rl_m rw_m cl_m dg_m) hx hb fp_142_11 hK hH v47 (Nat.le_of_ble_eq_true rfl) rfl rfl rfl (fun _ => by rw [G0]; exact ⟨rm, ud_m, x79, lo_m, wk_m, dk_m, ln_m, sm_m, x45, x46, x54, rl_m, rw_m, cl_m, dg_m, rfl, Rm, ⟨by first | decide | omega, by first | decide | omega⟩, ⟨by first | decide | omega, by first | decide | omega⟩, ⟨by first | decide | omega, by first | decide | omega⟩, ⟨by first | decide | omega, by first | decide | omega⟩, ⟨by first | decide | omega, by first | decide | omega⟩, ⟨by first | decide | omega, by first | decide | omega⟩, ⟨by first | decide | omega, by first | decide | omega⟩, ⟨by first | decide | omega, by first | decide | omega⟩, ⟨by first | decide | omega, by first | decide | omega⟩, ⟨by first | decide | omega, by first | decide | omega⟩, ⟨by first | decide | omega, by first | decide | omega⟩, ⟨by first | decide | omega, by first | decide | omega⟩⟩) hS (hw_AWi G0 (by decide)) dX12_readsKey_121 (fun H locs hH v47 oq hz hS => ?_)
                refine lv_iconst (v := 1) hx hb dX12_readsKey_124 (by decide) ?_
                exact hw_iretM (v := 1) hx hb hr hlocks hQ hS rfl (Or.inr (⟨x45, x46, x54, x79, rfl, hH, v47, ⟨by first | decide | omega, by first | decide | omega⟩, ⟨by first | decide | omega, by first | decide | omega⟩, ⟨by first | decide | omega, by first | decide | omega⟩, ⟨by first | decide | omega, by first | decide | omega⟩, (by first | rfl | trivial | assumption | omega | (intros; first | rfl | assumption | omega | (exfalso; omega))), (by first | rfl | trivial | assumption | omega | (intros; first | rfl | assumption | omega | (exfalso; omega))), (by first | rfl | trivial | assumption | omega | (intros; first | rfl | assumption | omega | (exfalso; omega)))⟩)) dX12_readsKey_125
            · exact absurd c53 (by decide)
        · have b82 : p1.toInt ≠ 1 := hw_ine c33
          refine lv_iload_n hx hb dX12_readsKey_39 rfl (lv_at hl 1 rfl) ?_
          refine lv_iconst (v := 3) hx hb dX12_readsKey_40 (by decide) ?_
          refine lv_icmp_ne (tgt := 57) hx hb dX12_readsKey_41 (by decide) (fun c83 => ?_) (fun c83 => ?_)
          · have b84 : p1.toInt ≠ 3 := hw_ine c83
            refine lv_aload_n hx hb dX12_readsKey_57 rfl (lv_at hl 0 rfl) ?_
            refine lv_dup hx hb dX12_readsKey_58 rfl ?_
            refine hw_get hx hb fg_155_11 hK v26 rfl dX12_readsKey_59 ?_
            refine lv_iconst (v := 1) hx hb dX12_readsKey_62 (by decide) ?_
            refine lv_iadd hx hb dX12_readsKey_63 ?_
            refine lv_topi (fun x85 e86 => ?_)
            have t87 : x85.toInt = rk_m.toInt + 1 := by rw [e86]; exact hw_add rfl rfl (by omega) (by omega)
            refine hw_put (v := .int x85) (fs' := hw_LM rm ud_m ky_m lo_m wk_m dk_m ln_m sm_m x24 x25 x85 rl_m rw_m cl_m dg_m) hx hb fp_155_11 hK hH v26 (Nat.le_of_ble_eq_true rfl) rfl rfl rfl (fun _ => by rw [G0]; exact ⟨rm, ud_m, ky_m, lo_m, wk_m, dk_m, ln_m, sm_m, x24, x25, x85, rl_m, rw_m, cl_m, dg_m, rfl, Rm, ⟨by first | decide | omega, by first | decide | omega⟩, ⟨by first | decide | omega, by first | decide | omega⟩, ⟨by first | decide | omega, by first | decide | omega⟩, ⟨by first | decide | omega, by first | decide | omega⟩, ⟨by first | decide | omega, by first | decide | omega⟩, ⟨by first | decide | omega, by first | decide | omega⟩, ⟨by first | decide | omega, by first | decide | omega⟩, ⟨by first | decide | omega, by first | decide | omega⟩, ⟨by first | decide | omega, by first | decide | omega⟩, ⟨by first | decide | omega, by first | decide | omega⟩, ⟨by first | decide | omega, by first | decide | omega⟩, ⟨by first | decide | omega, by first | decide | omega⟩⟩) hS (hw_AWi G0 (by decide)) dX12_readsKey_64 (fun H locs hH v26 oq hz hS => ?_)
            refine lv_aload_n hx hb dX12_readsKey_67 rfl (lv_at hl 0 rfl) ?_
            refine hw_get hx hb fg_162_11 hK v26 rfl dX12_readsKey_68 ?_
            refine lv_if_eq (tgt := 124) hx hb dX12_readsKey_71 (by decide) (fun c88 => ?_) (fun c88 => ?_)
            · have b89 : dg_m.toInt = 0 := hw_ieq c88
              refine lv_iconst (v := 1) hx hb dX12_readsKey_124 (by decide) ?_
              exact hw_iretM (v := 1) hx hb hr hlocks hQ hS rfl (Or.inr (⟨x24, x25, x85, ky_m, rfl, hH, v26, ⟨by first | decide | omega, by first | decide | omega⟩, ⟨by first | decide | omega, by first | decide | omega⟩, ⟨by first | decide | omega, by first | decide | omega⟩, ⟨by first | decide | omega, by first | decide | omega⟩, (by first | rfl | trivial | assumption | omega | (intros; first | rfl | assumption | omega | (exfalso; omega))), (by first | rfl | trivial | assumption | omega | (intros; first | rfl | assumption | omega | (exfalso; omega))), (by first | rfl | trivial | assumption | omega | (intros; first | rfl | assumption | omega | (exfalso; omega)))⟩)) dX12_readsKey_125
            · have b90 : dg_m.toInt ≠ 0 := hw_ine c88
              refine lv_aload_n hx hb dX12_readsKey_74 rfl (lv_at hl 0 rfl) ?_
              refine hw_get hx hb fg_17_11 hK v26 rfl dX12_readsKey_75 ?_
              refine lv_aload_n hx hb dX12_readsKey_78 rfl (lv_at hl 0 rfl) ?_
              refine hw_get hx hb fg_142_11 hK v26 rfl dX12_readsKey_79 ?_
              refine lv_iload_n hx hb dX12_readsKey_82 rfl (lv_at hl 1 rfl) ?_
              obtain ⟨f91, v92⟩ := hH.a44 (hw_RM_4 Rm)
              refine hw_iast hx hb hK hH v92 (hw_in (by omega) (by omega)) (fun _ => by rw [(hw_RM_4 Rm)]; exact ⟨_, rfl⟩) hS (hw_AWi (hw_RM_4 Rm) (by decide)) dX12_readsKey_83 (fun H locs hH v92 oq hz hS => ?_)
              have v26 := va_at.kept v26 (oq _ (hw_ne G0 (hw_RM_4 Rm) (by decide)))
              refine lv_aload_n hx hb dX12_readsKey_84 rfl (lv_at hl 0 rfl) ?_
              refine hw_get hx hb fg_20_11 hK v26 rfl dX12_readsKey_85 ?_
              refine lv_aload_n hx hb dX12_readsKey_88 rfl (lv_at hl 0 rfl) ?_
              refine hw_get hx hb fg_142_11 hK v26 rfl dX12_readsKey_89 ?_
              refine lv_aload_n hx hb dX12_readsKey_92 rfl (lv_at hl 0 rfl) ?_
              refine hw_get hx hb fg_54_11 hK v26 rfl dX12_readsKey_93 ?_
              refine lv_iconst (v := 0) hx hb dX12_readsKey_96 (by decide) ?_
              obtain ⟨f94, v95⟩ := hH.a67 (hw_RM_27 Rm)
              refine hw_iald hx hb hK v95 (hw_in (x := 0) (by decide) (by decide)) dX12_readsKey_97 ?_
              refine lv_topi (fun x97 e98 => ?_)
              obtain ⟨f99, v100⟩ := hH.a45 (hw_RM_5 Rm)
              refine hw_iast hx hb hK hH v100 (hw_in (by omega) (by omega)) (fun _ => by rw [(hw_RM_5 Rm)]; exact ⟨_, rfl⟩) hS (hw_AWi (hw_RM_5 Rm) (by decide)) dX12_readsKey_98 (fun H locs hH v100 oq hz hS => ?_)
              have v26 := va_at.kept v26 (oq _ (hw_ne G0 (hw_RM_5 Rm) (by decide)))
              refine lv_aload_n hx hb dX12_readsKey_99 rfl (lv_at hl 0 rfl) ?_
              refine hw_get hx hb fg_23_11 hK v26 rfl dX12_readsKey_100 ?_
              refine lv_aload_n hx hb dX12_readsKey_103 rfl (lv_at hl 0 rfl) ?_
              refine hw_get hx hb fg_142_11 hK v26 rfl dX12_readsKey_104 ?_
              refine lv_aload_n hx hb dX12_readsKey_107 rfl (lv_at hl 0 rfl) ?_
              refine hw_get hx hb fg_54_11 hK v26 rfl dX12_readsKey_108 ?_
              refine lv_iconst (v := 1) hx hb dX12_readsKey_111 (by decide) ?_
              obtain ⟨f102, v103⟩ := hH.a67 (hw_RM_27 Rm)
              refine hw_iald hx hb hK v103 (hw_in (x := 1) (by decide) (by decide)) dX12_readsKey_112 ?_
              refine lv_topi (fun x105 e106 => ?_)
              obtain ⟨f107, v108⟩ := hH.a46 (hw_RM_6 Rm)
              refine hw_iast hx hb hK hH v108 (hw_in (by omega) (by omega)) (fun _ => by rw [(hw_RM_6 Rm)]; exact ⟨_, rfl⟩) hS (hw_AWi (hw_RM_6 Rm) (by decide)) dX12_readsKey_113 (fun H locs hH v108 oq hz hS => ?_)
              have v26 := va_at.kept v26 (oq _ (hw_ne G0 (hw_RM_6 Rm) (by decide)))
              refine lv_aload_n hx hb dX12_readsKey_114 rfl (lv_at hl 0 rfl) ?_
              refine lv_dup hx hb dX12_readsKey_115 rfl ?_
              refine hw_get hx hb fg_142_11 hK v26 rfl dX12_readsKey_116 ?_
              refine lv_iconst (v := 1) hx hb dX12_readsKey_119 (by decide) ?_
              refine lv_iadd hx hb dX12_readsKey_120 ?_
              refine lv_topi (fun x110 e111 => ?_)
              have t112 : x110.toInt = ky_m.toInt + 1 := by rw [e111]; exact hw_add rfl rfl (by omega) (by omega)
              refine hw_put (v := .int x110) (fs' := hw_LM rm ud_m x110 lo_m wk_m dk_m ln_m sm_m x24 x25 x85 rl_m rw_m cl_m dg_m) hx hb fp_142_11 hK hH v26 (Nat.le_of_ble_eq_true rfl) rfl rfl rfl (fun _ => by rw [G0]; exact ⟨rm, ud_m, x110, lo_m, wk_m, dk_m, ln_m, sm_m, x24, x25, x85, rl_m, rw_m, cl_m, dg_m, rfl, Rm, ⟨by first | decide | omega, by first | decide | omega⟩, ⟨by first | decide | omega, by first | decide | omega⟩, ⟨by first | decide | omega, by first | decide | omega⟩, ⟨by first | decide | omega, by first | decide | omega⟩, ⟨by first | decide | omega, by first | decide | omega⟩, ⟨by first | decide | omega, by first | decide | omega⟩, ⟨by first | decide | omega, by first | decide | omega⟩, ⟨by first | decide | omega, by first | decide | omega⟩, ⟨by first | decide | omega, by first | decide | omega⟩, ⟨by first | decide | omega, by first | decide | omega⟩, ⟨by first | decide | omega, by first | decide | omega⟩, ⟨by first | decide | omega, by first | decide | omega⟩⟩) hS (hw_AWi G0 (by decide)) dX12_readsKey_121 (fun H locs hH v26 oq hz hS => ?_)
              refine lv_iconst (v := 1) hx hb dX12_readsKey_124 (by decide) ?_
              exact hw_iretM (v := 1) hx hb hr hlocks hQ hS rfl (Or.inr (⟨x24, x25, x85, x110, rfl, hH, v26, ⟨by first | decide | omega, by first | decide | omega⟩, ⟨by first | decide | omega, by first | decide | omega⟩, ⟨by first | decide | omega, by first | decide | omega⟩, ⟨by first | decide | omega, by first | decide | omega⟩, (by first | rfl | trivial | assumption | omega | (intros; first | rfl | assumption | omega | (exfalso; omega))), (by first | rfl | trivial | assumption | omega | (intros; first | rfl | assumption | omega | (exfalso; omega))), (by first | rfl | trivial | assumption | omega | (intros; first | rfl | assumption | omega | (exfalso; omega)))⟩)) dX12_readsKey_125
          · have b113 : p1.toInt = 3 := hw_ieq c83
            refine lv_aload_n hx hb dX12_readsKey_44 rfl (lv_at hl 0 rfl) ?_
            refine lv_iconst (v := 1) hx hb dX12_readsKey_45 (by decide) ?_
            refine lv_iconst (v := 0) hx hb dX12_readsKey_46 (by decide) ?_
            refine lv_bipush (v := 9) hx hb dX12_readsKey_47 (by decide) ?_
            refine hw_cM0 (va_runV (As := [.int 1, .int 0, .int 9]) (rest := []) ⟨hx, hb, hml, hown, hts⟩ (k_X12_number l D G h0 1 0 9 _ rm ud_m ky_m lo_m wk_m dk_m ln_m sm_m x24 x25 rk_m rl_m rw_m cl_m dg_m G0 Rm ⟨by first | decide | omega, by first | decide | omega⟩ ⟨by first | decide | omega, by first | decide | omega⟩ ⟨by first | decide | omega, by first | decide | omega⟩ ⟨by first | decide | omega, by first | decide | omega⟩ ⟨by first | decide | omega, by first | decide | omega⟩ ⟨by first | decide | omega, by first | decide | omega⟩ ⟨by first | decide | omega, by first | decide | omega⟩ ⟨by first | decide | omega, by first | decide | omega⟩ ⟨by first | decide | omega, by first | decide | omega⟩ ⟨by first | decide | omega, by first | decide | omega⟩ ⟨by first | decide | omega, by first | decide | omega⟩ ⟨by first | decide | omega, by first | decide | omega⟩ (by first | assumption | decide | omega) (by first | assumption | decide | omega) (by first | assumption | decide | omega)) (cwV 3 hts gX12_readsKey_X12_number rfl rfl rfl (by decide +kernel) ⟨Nat.le_of_ble_eq_true rfl, Nat.le_of_ble_eq_true rfl⟩) (hw_pV (hw_rc (q := (RX12, TX12, 45)) hK v26 rfl) hH hK hST hS (by decide) (fun _ h => Or.inl h) v26) rfl rfl hl.1 rfl (lv_room (Nat.le_of_ble_eq_true rfl)) dX12_readsKey_49 ⟨Nat.le_of_ble_eq_true rfl, Nat.le_of_ble_eq_true rfl⟩) hS (hw_AWsub (by decide) (fun _ _ => rfl) hS.1) (fun v H locs hp hz hk hS => ?_)
            have l114 : (1 : Int32).toInt = 1 := rfl
            have l115 : (0 : Int32).toInt = 0 := rfl
            have l116 : (9 : Int32).toInt = 9 := rfl
            rcases hp with ⟨x117, x118, rfl, hH, v119, g120, g121, q122, q123⟩ | ⟨x124, x125, rfl, hH, v126, g127, g128, q129, q130⟩
            · refine lv_if_ne (tgt := 57) hx hb dX12_readsKey_52 (by decide) (fun c131 => ?_) (fun c131 => ?_)
              · exact absurd c131 (by decide)
              · refine lv_iconst (v := 0) hx hb dX12_readsKey_55 (by decide) ?_
                exact hw_iretM (v := 0) hx hb hr hlocks hQ hS rfl (Or.inl ⟨x117, x118, rk_m, ky_m, rfl, hH, v119, ⟨by first | decide | omega, by first | decide | omega⟩, ⟨by first | decide | omega, by first | decide | omega⟩, ⟨by first | decide | omega, by first | decide | omega⟩, ⟨by first | decide | omega, by first | decide | omega⟩, (by first | rfl | trivial | assumption | omega | (intros; first | rfl | assumption | omega | (exfalso; omega))), (by first | rfl | trivial | assumption | omega | (intros; first | rfl | assumption | omega | (exfalso; omega))), (by first | rfl | trivial | assumption | omega | (intros; first | rfl | assumption | omega | (exfalso; omega)))⟩) dX12_readsKey_56
            · refine lv_if_ne (tgt := 57) hx hb dX12_readsKey_52 (by decide) (fun c132 => ?_) (fun c132 => ?_)
              · refine lv_aload_n hx hb dX12_readsKey_57 rfl (lv_at hl 0 rfl) ?_
                refine lv_dup hx hb dX12_readsKey_58 rfl ?_
                refine hw_get hx hb fg_155_11 hK v126 rfl dX12_readsKey_59 ?_
                refine lv_iconst (v := 1) hx hb dX12_readsKey_62 (by decide) ?_
                refine lv_iadd hx hb dX12_readsKey_63 ?_
                refine lv_topi (fun x133 e134 => ?_)
                have t135 : x133.toInt = rk_m.toInt + 1 := by rw [e134]; exact hw_add rfl rfl (by omega) (by omega)
                refine hw_put (v := .int x133) (fs' := hw_LM rm ud_m ky_m lo_m wk_m dk_m ln_m sm_m x124 x125 x133 rl_m rw_m cl_m dg_m) hx hb fp_155_11 hK hH v126 (Nat.le_of_ble_eq_true rfl) rfl rfl rfl (fun _ => by rw [G0]; exact ⟨rm, ud_m, ky_m, lo_m, wk_m, dk_m, ln_m, sm_m, x124, x125, x133, rl_m, rw_m, cl_m, dg_m, rfl, Rm, ⟨by first | decide | omega, by first | decide | omega⟩, ⟨by first | decide | omega, by first | decide | omega⟩, ⟨by first | decide | omega, by first | decide | omega⟩, ⟨by first | decide | omega, by first | decide | omega⟩, ⟨by first | decide | omega, by first | decide | omega⟩, ⟨by first | decide | omega, by first | decide | omega⟩, ⟨by first | decide | omega, by first | decide | omega⟩, ⟨by first | decide | omega, by first | decide | omega⟩, ⟨by first | decide | omega, by first | decide | omega⟩, ⟨by first | decide | omega, by first | decide | omega⟩, ⟨by first | decide | omega, by first | decide | omega⟩, ⟨by first | decide | omega, by first | decide | omega⟩⟩) hS (hw_AWi G0 (by decide)) dX12_readsKey_64 (fun H locs hH v126 oq hz hS => ?_)
                refine lv_aload_n hx hb dX12_readsKey_67 rfl (lv_at hl 0 rfl) ?_
                refine hw_get hx hb fg_162_11 hK v126 rfl dX12_readsKey_68 ?_
                refine lv_if_eq (tgt := 124) hx hb dX12_readsKey_71 (by decide) (fun c136 => ?_) (fun c136 => ?_)
                · have b137 : dg_m.toInt = 0 := hw_ieq c136
                  refine lv_iconst (v := 1) hx hb dX12_readsKey_124 (by decide) ?_
                  exact hw_iretM (v := 1) hx hb hr hlocks hQ hS rfl (Or.inr (⟨x124, x125, x133, ky_m, rfl, hH, v126, ⟨by first | decide | omega, by first | decide | omega⟩, ⟨by first | decide | omega, by first | decide | omega⟩, ⟨by first | decide | omega, by first | decide | omega⟩, ⟨by first | decide | omega, by first | decide | omega⟩, (by first | rfl | trivial | assumption | omega | (intros; first | rfl | assumption | omega | (exfalso; omega))), (by first | rfl | trivial | assumption | omega | (intros; first | rfl | assumption | omega | (exfalso; omega))), (by first | rfl | trivial | assumption | omega | (intros; first | rfl | assumption | omega | (exfalso; omega)))⟩)) dX12_readsKey_125
                · have b138 : dg_m.toInt ≠ 0 := hw_ine c136
                  refine lv_aload_n hx hb dX12_readsKey_74 rfl (lv_at hl 0 rfl) ?_
                  refine hw_get hx hb fg_17_11 hK v126 rfl dX12_readsKey_75 ?_
                  refine lv_aload_n hx hb dX12_readsKey_78 rfl (lv_at hl 0 rfl) ?_
                  refine hw_get hx hb fg_142_11 hK v126 rfl dX12_readsKey_79 ?_
                  refine lv_iload_n hx hb dX12_readsKey_82 rfl (lv_at hl 1 rfl) ?_
                  obtain ⟨f139, v140⟩ := hH.a44 (hw_RM_4 Rm)
                  refine hw_iast hx hb hK hH v140 (hw_in (by omega) (by omega)) (fun _ => by rw [(hw_RM_4 Rm)]; exact ⟨_, rfl⟩) hS (hw_AWi (hw_RM_4 Rm) (by decide)) dX12_readsKey_83 (fun H locs hH v140 oq hz hS => ?_)
                  have v126 := va_at.kept v126 (oq _ (hw_ne G0 (hw_RM_4 Rm) (by decide)))
                  refine lv_aload_n hx hb dX12_readsKey_84 rfl (lv_at hl 0 rfl) ?_
                  refine hw_get hx hb fg_20_11 hK v126 rfl dX12_readsKey_85 ?_
                  refine lv_aload_n hx hb dX12_readsKey_88 rfl (lv_at hl 0 rfl) ?_
                  refine hw_get hx hb fg_142_11 hK v126 rfl dX12_readsKey_89 ?_
                  refine lv_aload_n hx hb dX12_readsKey_92 rfl (lv_at hl 0 rfl) ?_
                  refine hw_get hx hb fg_54_11 hK v126 rfl dX12_readsKey_93 ?_
                  refine lv_iconst (v := 0) hx hb dX12_readsKey_96 (by decide) ?_
                  obtain ⟨f142, v143⟩ := hH.a67 (hw_RM_27 Rm)
                  refine hw_iald hx hb hK v143 (hw_in (x := 0) (by decide) (by decide)) dX12_readsKey_97 ?_
                  refine lv_topi (fun x145 e146 => ?_)
                  obtain ⟨f147, v148⟩ := hH.a45 (hw_RM_5 Rm)
                  refine hw_iast hx hb hK hH v148 (hw_in (by omega) (by omega)) (fun _ => by rw [(hw_RM_5 Rm)]; exact ⟨_, rfl⟩) hS (hw_AWi (hw_RM_5 Rm) (by decide)) dX12_readsKey_98 (fun H locs hH v148 oq hz hS => ?_)
                  have v126 := va_at.kept v126 (oq _ (hw_ne G0 (hw_RM_5 Rm) (by decide)))
                  refine lv_aload_n hx hb dX12_readsKey_99 rfl (lv_at hl 0 rfl) ?_
                  refine hw_get hx hb fg_23_11 hK v126 rfl dX12_readsKey_100 ?_
                  refine lv_aload_n hx hb dX12_readsKey_103 rfl (lv_at hl 0 rfl) ?_
                  refine hw_get hx hb fg_142_11 hK v126 rfl dX12_readsKey_104 ?_
                  refine lv_aload_n hx hb dX12_readsKey_107 rfl (lv_at hl 0 rfl) ?_
                  refine hw_get hx hb fg_54_11 hK v126 rfl dX12_readsKey_108 ?_
                  refine lv_iconst (v := 1) hx hb dX12_readsKey_111 (by decide) ?_
                  obtain ⟨f150, v151⟩ := hH.a67 (hw_RM_27 Rm)
                  refine hw_iald hx hb hK v151 (hw_in (x := 1) (by decide) (by decide)) dX12_readsKey_112 ?_
                  refine lv_topi (fun x153 e154 => ?_)
                  obtain ⟨f155, v156⟩ := hH.a46 (hw_RM_6 Rm)
                  refine hw_iast hx hb hK hH v156 (hw_in (by omega) (by omega)) (fun _ => by rw [(hw_RM_6 Rm)]; exact ⟨_, rfl⟩) hS (hw_AWi (hw_RM_6 Rm) (by decide)) dX12_readsKey_113 (fun H locs hH v156 oq hz hS => ?_)
                  have v126 := va_at.kept v126 (oq _ (hw_ne G0 (hw_RM_6 Rm) (by decide)))
                  refine lv_aload_n hx hb dX12_readsKey_114 rfl (lv_at hl 0 rfl) ?_
                  refine lv_dup hx hb dX12_readsKey_115 rfl ?_
                  refine hw_get hx hb fg_142_11 hK v126 rfl dX12_readsKey_116 ?_
                  refine lv_iconst (v := 1) hx hb dX12_readsKey_119 (by decide) ?_
                  refine lv_iadd hx hb dX12_readsKey_120 ?_
                  refine lv_topi (fun x158 e159 => ?_)
                  have t160 : x158.toInt = ky_m.toInt + 1 := by rw [e159]; exact hw_add rfl rfl (by omega) (by omega)
                  refine hw_put (v := .int x158) (fs' := hw_LM rm ud_m x158 lo_m wk_m dk_m ln_m sm_m x124 x125 x133 rl_m rw_m cl_m dg_m) hx hb fp_142_11 hK hH v126 (Nat.le_of_ble_eq_true rfl) rfl rfl rfl (fun _ => by rw [G0]; exact ⟨rm, ud_m, x158, lo_m, wk_m, dk_m, ln_m, sm_m, x124, x125, x133, rl_m, rw_m, cl_m, dg_m, rfl, Rm, ⟨by first | decide | omega, by first | decide | omega⟩, ⟨by first | decide | omega, by first | decide | omega⟩, ⟨by first | decide | omega, by first | decide | omega⟩, ⟨by first | decide | omega, by first | decide | omega⟩, ⟨by first | decide | omega, by first | decide | omega⟩, ⟨by first | decide | omega, by first | decide | omega⟩, ⟨by first | decide | omega, by first | decide | omega⟩, ⟨by first | decide | omega, by first | decide | omega⟩, ⟨by first | decide | omega, by first | decide | omega⟩, ⟨by first | decide | omega, by first | decide | omega⟩, ⟨by first | decide | omega, by first | decide | omega⟩, ⟨by first | decide | omega, by first | decide | omega⟩⟩) hS (hw_AWi G0 (by decide)) dX12_readsKey_121 (fun H locs hH v126 oq hz hS => ?_)
                  refine lv_iconst (v := 1) hx hb dX12_readsKey_124 (by decide) ?_
                  exact hw_iretM (v := 1) hx hb hr hlocks hQ hS rfl (Or.inr (⟨x124, x125, x133, x158, rfl, hH, v126, ⟨by first | decide | omega, by first | decide | omega⟩, ⟨by first | decide | omega, by first | decide | omega⟩, ⟨by first | decide | omega, by first | decide | omega⟩, ⟨by first | decide | omega, by first | decide | omega⟩, (by first | rfl | trivial | assumption | omega | (intros; first | rfl | assumption | omega | (exfalso; omega))), (by first | rfl | trivial | assumption | omega | (intros; first | rfl | assumption | omega | (exfalso; omega))), (by first | rfl | trivial | assumption | omega | (intros; first | rfl | assumption | omega | (exfalso; omega)))⟩)) dX12_readsKey_125
              · exact absurd c132 (by decide)
  · have b161 : rk_m.toInt = 7 := hw_ieq c1
    refine lv_iconst (v := 0) hx hb dX12_readsKey_9 (by decide) ?_
    exact hw_iretM (v := 0) hx hb hr hlocks hQ hS rfl (Or.inl ⟨fi_m, be_m, rk_m, ky_m, rfl, hH, vm, ⟨by first | decide | omega, by first | decide | omega⟩, ⟨by first | decide | omega, by first | decide | omega⟩, ⟨by first | decide | omega, by first | decide | omega⟩, ⟨by first | decide | omega, by first | decide | omega⟩, (by first | rfl | trivial | assumption | omega | (intros; first | rfl | assumption | omega | (exfalso; omega))), (by first | rfl | trivial | assumption | omega | (intros; first | rfl | assumption | omega | (exfalso; omega))), (by first | rfl | trivial | assumption | omega | (intros; first | rfl | assumption | omega | (exfalso; omega)))⟩) dX12_readsKey_10

set_option maxHeartbeats 4000000 in
set_option maxRecDepth 100000 in
theorem k_X12_readsLock (l : Launch) (D : hw_D) (G : Nat → Nat) (h0 : Nat) (sz : Nat) (rm : Nat → Nat) (ud_m ky_m lo_m wk_m dk_m ln_m sm_m fi_m be_m rk_m rl_m rw_m cl_m dg_m : Int32) (G0 : G h0 = 9) (Rm : hw_RM G rm) (gud_m : 0 ≤ ud_m.toInt ∧ ud_m.toInt ≤ 8) (gky_m : 0 ≤ ky_m.toInt ∧ ky_m.toInt ≤ 7) (glo_m : 0 ≤ lo_m.toInt ∧ lo_m.toInt ≤ 7) (gwk_m : 0 ≤ wk_m.toInt ∧ wk_m.toInt ≤ 3) (gln_m : 0 ≤ ln_m.toInt ∧ ln_m.toInt ≤ 200) (gsm_m : 0 ≤ sm_m.toInt ∧ sm_m.toInt ≤ 6) (gfi_m : 0 ≤ fi_m.toInt ∧ fi_m.toInt ≤ 200) (gbe_m : 0 ≤ be_m.toInt ∧ be_m.toInt ≤ 200) (grk_m : 0 ≤ rk_m.toInt ∧ rk_m.toInt ≤ 7) (grl_m : 0 ≤ rl_m.toInt ∧ rl_m.toInt ≤ 7) (grw_m : 0 ≤ rw_m.toInt ∧ rw_m.toInt ≤ 3) (gdg_m : 0 ≤ dg_m.toInt ∧ dg_m.toInt ≤ 1) (hf : fi_m.toInt ≤ ln_m.toInt) (hb : be_m.toInt ≤ ln_m.toInt) (hd2 : dg_m.toInt = 1 → lo_m.toInt = rl_m.toInt) : Met l yX12_readsLock wsX12_readsLock ({ frames := 4, cells := 0, slots := 0, locals := 90 } : Room) (hw_PC D G [.ref h0] sz (fun H => va_at D.1 vwCl (h0, .inr (11, hw_LM rm ud_m ky_m lo_m wk_m dk_m ln_m sm_m fi_m be_m rk_m rl_m rw_m cl_m dg_m)) H)) (hw_QM (fun v H => (∃ (fi_m2 : Int32) (be_m2 : Int32) (rl_m2 : Int32) (lo_m2 : Int32), v = some (.int 0) ∧ hw_HT D G H ∧ va_at D.1 vwCl (h0, .inr (11, hw_LM rm ud_m ky_m lo_m2 wk_m dk_m ln_m sm_m fi_m2 be_m2 rk_m rl_m2 rw_m cl_m dg_m)) H ∧ (0 ≤ fi_m2.toInt ∧ fi_m2.toInt ≤ 200) ∧ (0 ≤ be_m2.toInt ∧ be_m2.toInt ≤ 200) ∧ (0 ≤ rl_m2.toInt ∧ rl_m2.toInt ≤ 7) ∧ (0 ≤ lo_m2.toInt ∧ lo_m2.toInt ≤ 7) ∧ be_m2.toInt ≤ ln_m.toInt ∧ fi_m2.toInt ≤ ln_m.toInt ∧ (dg_m.toInt = 1 → lo_m2.toInt = rl_m2.toInt)) ∨ (∃ (fi_m2 : Int32) (be_m2 : Int32) (rl_m2 : Int32) (lo_m2 : Int32), v = some (.int 1) ∧ hw_HT D G H ∧ va_at D.1 vwCl (h0, .inr (11, hw_LM rm ud_m ky_m lo_m2 wk_m dk_m ln_m sm_m fi_m2 be_m2 rk_m rl_m2 rw_m cl_m dg_m)) H ∧ (0 ≤ fi_m2.toInt ∧ fi_m2.toInt ≤ 200) ∧ (0 ≤ be_m2.toInt ∧ be_m2.toInt ≤ 200) ∧ (0 ≤ rl_m2.toInt ∧ rl_m2.toInt ≤ 7) ∧ (0 ≤ lo_m2.toInt ∧ lo_m2.toInt ≤ 7) ∧ be_m2.toInt ≤ ln_m.toInt ∧ fi_m2.toInt ≤ ln_m.toInt ∧ (dg_m.toInt = 1 → lo_m2.toInt = rl_m2.toInt))) (hw_AW G [9, 48, 49, 50, 51, 67] sz)) 0 0 (hw_AW G [9, 48, 49, 50, 51, 67] sz) := by
  refine hw_met (cc := cX12_readsLock) (maxL := 1) (ret := (some .boolean)) (plainFor_of_name (by decide)) rfl (Nat.le_of_ble_eq_true rfl) ?_
  intro p e s m args below meth c QQ ls hsz hx hb hml hr hts hown hlocks hnm hH hK hST hF hQ hl
  subst hsz
  have hS : va_S (hw_AW G [9, 48, 49, 50, 51, 67] s.heap.size) s.heap s.heap [] := va_S.rf
  have vm := hF
  have hl : lv_has ls 1 [(0, .ref h0)] := hl
  have u_11 : ∀ w ∈ u_ws RX12 TX12 45, w.before args s = true := fun w hw => hts w ((by decide +kernel : ∀ w ∈ u_ws RX12 TX12 45, w ∈ wsX12_readsLock) w hw)
  have fg_166_11 : hw_FG s args m 166 11 23 := ⟨RX12, "WardWalkersModel", RX12, TX12, 45, u_11, hown, rfl, by decide, (hts (.fieldLink RX12 166 "WardWalkersModel" "readLocks" "I") (by decide +kernel)), (fun _ h9 => h9)⟩
  have fp_166_11 : hw_FP s args m 166 11 23 false .int := ⟨RX12, "WardWalkersModel", RX12, TX12, 45, tyX12, u_11, hown, rfl, by decide, (hts (.fieldLink RX12 166 "WardWalkersModel" "readLocks" "I") (by decide +kernel)), (fun _ h9 => h9), tyX12_ok, nmX12, rfl, (fun h => by cases h), by decide +kernel⟩
  have fg_162_11 : hw_FG s args m 162 11 26 := ⟨RX12, "WardWalkersModel", RX12, TX12, 45, u_11, hown, rfl, by decide, (hts (.fieldLink RX12 162 "WardWalkersModel" "doing" "Z") (by decide +kernel)), (fun _ h9 => h9)⟩
  have fg_26_11 : hw_FG s args m 26 11 8 := ⟨RX12, "WardWalkersModel", RX12, TX12, 45, u_11, hown, rfl, by decide, (hts (.fieldLink RX12 26 "WardWalkersModel" "places" "[I") (by decide +kernel)), (fun _ h9 => h9)⟩
  have fg_145_11 : hw_FG s args m 145 11 7 := ⟨RX12, "WardWalkersModel", RX12, TX12, 45, u_11, hown, rfl, by decide, (hts (.fieldLink RX12 145 "WardWalkersModel" "locks" "I") (by decide +kernel)), (fun _ h9 => h9)⟩
  have fg_54_11 : hw_FG s args m 54 11 27 := ⟨RX12, "WardWalkersModel", RX12, TX12, 45, u_11, hown, rfl, by decide, (hts (.fieldLink RX12 54 "WardWalkersModel" "numbers" "[I") (by decide +kernel)), (fun _ h9 => h9)⟩
  have fg_29_11 : hw_FG s args m 29 11 9 := ⟨RX12, "WardWalkersModel", RX12, TX12, 45, u_11, hown, rfl, by decide, (hts (.fieldLink RX12 29 "WardWalkersModel" "wanted" "[I") (by decide +kernel)), (fun _ h9 => h9)⟩
  have fg_32_11 : hw_FG s args m 32 11 10 := ⟨RX12, "WardWalkersModel", RX12, TX12, 45, u_11, hown, rfl, by decide, (hts (.fieldLink RX12 32 "WardWalkersModel" "plays" "[I") (by decide +kernel)), (fun _ h9 => h9)⟩
  have fg_35_11 : hw_FG s args m 35 11 11 := ⟨RX12, "WardWalkersModel", RX12, TX12, 45, u_11, hown, rfl, by decide, (hts (.fieldLink RX12 35 "WardWalkersModel" "values" "[I") (by decide +kernel)), (fun _ h9 => h9)⟩
  have fp_145_11 : hw_FP s args m 145 11 7 false .int := ⟨RX12, "WardWalkersModel", RX12, TX12, 45, tyX12, u_11, hown, rfl, by decide, (hts (.fieldLink RX12 145 "WardWalkersModel" "locks" "I") (by decide +kernel)), (fun _ h9 => h9), tyX12_ok, nmX12, rfl, (fun h => by cases h), by decide +kernel⟩
  refine lv_aload_n hx hb dX12_readsLock_0 rfl (lv_at hl 0 rfl) ?_
  refine hw_get hx hb fg_166_11 hK vm rfl dX12_readsLock_1 ?_
  refine lv_bipush (v := 7) hx hb dX12_readsLock_4 (by decide) ?_
  refine lv_icmp_ne (tgt := 11) hx hb dX12_readsLock_6 (by decide) (fun c1 => ?_) (fun c1 => ?_)
  · have b2 : rl_m.toInt ≠ 7 := hw_ine c1
    refine lv_aload_n hx hb dX12_readsLock_11 rfl (lv_at hl 0 rfl) ?_
    refine hw_cM0 (va_runV (As := []) (rest := []) ⟨hx, hb, hml, hown, hts⟩ (k_X12_nextToken l D G h0 _ rm ud_m ky_m lo_m wk_m dk_m ln_m sm_m fi_m be_m rk_m rl_m rw_m cl_m dg_m G0 Rm ⟨by first | decide | omega, by first | decide | omega⟩ ⟨by first | decide | omega, by first | decide | omega⟩ ⟨by first | decide | omega, by first | decide | omega⟩ ⟨by first | decide | omega, by first | decide | omega⟩ ⟨by first | decide | omega, by first | decide | omega⟩ ⟨by first | decide | omega, by first | decide | omega⟩ ⟨by first | decide | omega, by first | decide | omega⟩ ⟨by first | decide | omega, by first | decide | omega⟩ ⟨by first | decide | omega, by first | decide | omega⟩ ⟨by first | decide | omega, by first | decide | omega⟩ ⟨by first | decide | omega, by first | decide | omega⟩ ⟨by first | decide | omega, by first | decide | omega⟩) (cwV 0 hts gX12_readsLock_X12_nextToken rfl rfl rfl (by decide +kernel) ⟨Nat.le_of_ble_eq_true rfl, Nat.le_of_ble_eq_true rfl⟩) (hw_pV (hw_rc (q := (RX12, TX12, 45)) hK vm rfl) hH hK hST hS (by decide) (fun _ h => Or.inl h) vm) rfl rfl hl.1 rfl (lv_room (Nat.le_of_ble_eq_true rfl)) dX12_readsLock_12 ⟨Nat.le_of_ble_eq_true rfl, Nat.le_of_ble_eq_true rfl⟩) hS (hw_AWsub (by decide) (fun _ _ => rfl) hS.1) (fun v H locs hp hz hk hS => ?_)
    obtain ⟨x3, x4, rfl, hH, v5, g6, g7, q8, q9, q10⟩ := hp
    refine lv_aload_n hx hb dX12_readsLock_15 rfl (lv_at hl 0 rfl) ?_
    refine lv_iconst (v := 0) hx hb dX12_readsLock_16 (by decide) ?_
    refine lv_iconst (v := 0) hx hb dX12_readsLock_17 (by decide) ?_
    refine lv_bipush (v := 99) hx hb dX12_readsLock_18 (by decide) ?_
    refine hw_cM0 (va_runV (As := [.int 0, .int 0, .int 99]) (rest := []) ⟨hx, hb, hml, hown, hts⟩ (k_X12_number l D G h0 0 0 99 _ rm ud_m ky_m lo_m wk_m dk_m ln_m sm_m x3 x4 rk_m rl_m rw_m cl_m dg_m G0 Rm ⟨by first | decide | omega, by first | decide | omega⟩ ⟨by first | decide | omega, by first | decide | omega⟩ ⟨by first | decide | omega, by first | decide | omega⟩ ⟨by first | decide | omega, by first | decide | omega⟩ ⟨by first | decide | omega, by first | decide | omega⟩ ⟨by first | decide | omega, by first | decide | omega⟩ ⟨by first | decide | omega, by first | decide | omega⟩ ⟨by first | decide | omega, by first | decide | omega⟩ ⟨by first | decide | omega, by first | decide | omega⟩ ⟨by first | decide | omega, by first | decide | omega⟩ ⟨by first | decide | omega, by first | decide | omega⟩ ⟨by first | decide | omega, by first | decide | omega⟩ (by first | assumption | decide | omega) (by first | assumption | decide | omega) (by first | assumption | decide | omega)) (cwV 3 hts gX12_readsLock_X12_number rfl rfl rfl (by decide +kernel) ⟨Nat.le_of_ble_eq_true rfl, Nat.le_of_ble_eq_true rfl⟩) (hw_pV (hw_rc (q := (RX12, TX12, 45)) hK v5 rfl) hH hK hST hS (by decide) (fun _ h => Or.inl h) v5) rfl rfl hl.1 rfl (lv_room (Nat.le_of_ble_eq_true rfl)) dX12_readsLock_20 ⟨Nat.le_of_ble_eq_true rfl, Nat.le_of_ble_eq_true rfl⟩) hS (hw_AWsub (by decide) (fun _ _ => rfl) hS.1) (fun v H locs hp hz hk hS => ?_)
    have l11 : (0 : Int32).toInt = 0 := rfl
    have l12 : (0 : Int32).toInt = 0 := rfl
    have l13 : (99 : Int32).toInt = 99 := rfl
    rcases hp with ⟨x14, x15, rfl, hH, v16, g17, g18, q19, q20⟩ | ⟨x21, x22, rfl, hH, v23, g24, g25, q26, q27⟩
    · refine lv_if_eq (tgt := 59) hx hb dX12_readsLock_23 (by decide) (fun c28 => ?_) (fun c28 => ?_)
      · refine lv_iconst (v := 0) hx hb dX12_readsLock_59 (by decide) ?_
        exact hw_iretM (v := 0) hx hb hr hlocks hQ hS rfl (Or.inl ⟨x14, x15, rl_m, lo_m, rfl, hH, v16, ⟨by first | decide | omega, by first | decide | omega⟩, ⟨by first | decide | omega, by first | decide | omega⟩, ⟨by first | decide | omega, by first | decide | omega⟩, ⟨by first | decide | omega, by first | decide | omega⟩, (by first | rfl | trivial | assumption | omega | (intros; first | rfl | assumption | omega | (exfalso; omega))), (by first | rfl | trivial | assumption | omega | (intros; first | rfl | assumption | omega | (exfalso; omega))), (by first | rfl | trivial | assumption | omega | (intros; first | rfl | assumption | omega | (exfalso; omega)))⟩) dX12_readsLock_60
      · exact absurd c28 (by decide)
    · refine lv_if_eq (tgt := 59) hx hb dX12_readsLock_23 (by decide) (fun c29 => ?_) (fun c29 => ?_)
      · exact absurd c29 (by decide)
      · refine lv_aload_n hx hb dX12_readsLock_26 rfl (lv_at hl 0 rfl) ?_
        refine lv_iconst (v := 1) hx hb dX12_readsLock_27 (by decide) ?_
        refine lv_iconst (v := 0) hx hb dX12_readsLock_28 (by decide) ?_
        refine lv_sipush (v := 511) hx hb dX12_readsLock_29 (by decide) ?_
        refine hw_cM0 (va_runV (As := [.int 1, .int 0, .int 511]) (rest := []) ⟨hx, hb, hml, hown, hts⟩ (k_X12_number l D G h0 1 0 511 _ rm ud_m ky_m lo_m wk_m dk_m ln_m sm_m x21 x22 rk_m rl_m rw_m cl_m dg_m G0 Rm ⟨by first | decide | omega, by first | decide | omega⟩ ⟨by first | decide | omega, by first | decide | omega⟩ ⟨by first | decide | omega, by first | decide | omega⟩ ⟨by first | decide | omega, by first | decide | omega⟩ ⟨by first | decide | omega, by first | decide | omega⟩ ⟨by first | decide | omega, by first | decide | omega⟩ ⟨by first | decide | omega, by first | decide | omega⟩ ⟨by first | decide | omega, by first | decide | omega⟩ ⟨by first | decide | omega, by first | decide | omega⟩ ⟨by first | decide | omega, by first | decide | omega⟩ ⟨by first | decide | omega, by first | decide | omega⟩ ⟨by first | decide | omega, by first | decide | omega⟩ (by first | assumption | decide | omega) (by first | assumption | decide | omega) (by first | assumption | decide | omega)) (cwV 3 hts gX12_readsLock_X12_number rfl rfl rfl (by decide +kernel) ⟨Nat.le_of_ble_eq_true rfl, Nat.le_of_ble_eq_true rfl⟩) (hw_pV (hw_rc (q := (RX12, TX12, 45)) hK v23 rfl) hH hK hST hS (by decide) (fun _ h => Or.inl h) v23) rfl rfl hl.1 rfl (lv_room (Nat.le_of_ble_eq_true rfl)) dX12_readsLock_32 ⟨Nat.le_of_ble_eq_true rfl, Nat.le_of_ble_eq_true rfl⟩) hS (hw_AWsub (by decide) (fun _ _ => rfl) hS.1) (fun v H locs hp hz hk hS => ?_)
        have l30 : (1 : Int32).toInt = 1 := rfl
        have l31 : (0 : Int32).toInt = 0 := rfl
        have l32 : (511 : Int32).toInt = 511 := rfl
        rcases hp with ⟨x33, x34, rfl, hH, v35, g36, g37, q38, q39⟩ | ⟨x40, x41, rfl, hH, v42, g43, g44, q45, q46⟩
        · refine lv_if_eq (tgt := 59) hx hb dX12_readsLock_35 (by decide) (fun c47 => ?_) (fun c47 => ?_)
          · refine lv_iconst (v := 0) hx hb dX12_readsLock_59 (by decide) ?_
            exact hw_iretM (v := 0) hx hb hr hlocks hQ hS rfl (Or.inl ⟨x33, x34, rl_m, lo_m, rfl, hH, v35, ⟨by first | decide | omega, by first | decide | omega⟩, ⟨by first | decide | omega, by first | decide | omega⟩, ⟨by first | decide | omega, by first | decide | omega⟩, ⟨by first | decide | omega, by first | decide | omega⟩, (by first | rfl | trivial | assumption | omega | (intros; first | rfl | assumption | omega | (exfalso; omega))), (by first | rfl | trivial | assumption | omega | (intros; first | rfl | assumption | omega | (exfalso; omega))), (by first | rfl | trivial | assumption | omega | (intros; first | rfl | assumption | omega | (exfalso; omega)))⟩) dX12_readsLock_60
          · exact absurd c47 (by decide)
        · refine lv_if_eq (tgt := 59) hx hb dX12_readsLock_35 (by decide) (fun c48 => ?_) (fun c48 => ?_)
          · exact absurd c48 (by decide)
          · refine lv_aload_n hx hb dX12_readsLock_38 rfl (lv_at hl 0 rfl) ?_
            refine lv_iconst (v := 2) hx hb dX12_readsLock_39 (by decide) ?_
            refine lv_iconst (v := 0) hx hb dX12_readsLock_40 (by decide) ?_
            refine lv_iconst (v := 3) hx hb dX12_readsLock_41 (by decide) ?_
            refine hw_cM0 (va_runV (As := [.int 2, .int 0, .int 3]) (rest := []) ⟨hx, hb, hml, hown, hts⟩ (k_X12_number l D G h0 2 0 3 _ rm ud_m ky_m lo_m wk_m dk_m ln_m sm_m x40 x41 rk_m rl_m rw_m cl_m dg_m G0 Rm ⟨by first | decide | omega, by first | decide | omega⟩ ⟨by first | decide | omega, by first | decide | omega⟩ ⟨by first | decide | omega, by first | decide | omega⟩ ⟨by first | decide | omega, by first | decide | omega⟩ ⟨by first | decide | omega, by first | decide | omega⟩ ⟨by first | decide | omega, by first | decide | omega⟩ ⟨by first | decide | omega, by first | decide | omega⟩ ⟨by first | decide | omega, by first | decide | omega⟩ ⟨by first | decide | omega, by first | decide | omega⟩ ⟨by first | decide | omega, by first | decide | omega⟩ ⟨by first | decide | omega, by first | decide | omega⟩ ⟨by first | decide | omega, by first | decide | omega⟩ (by first | assumption | decide | omega) (by first | assumption | decide | omega) (by first | assumption | decide | omega)) (cwV 3 hts gX12_readsLock_X12_number rfl rfl rfl (by decide +kernel) ⟨Nat.le_of_ble_eq_true rfl, Nat.le_of_ble_eq_true rfl⟩) (hw_pV (hw_rc (q := (RX12, TX12, 45)) hK v42 rfl) hH hK hST hS (by decide) (fun _ h => Or.inl h) v42) rfl rfl hl.1 rfl (lv_room (Nat.le_of_ble_eq_true rfl)) dX12_readsLock_42 ⟨Nat.le_of_ble_eq_true rfl, Nat.le_of_ble_eq_true rfl⟩) hS (hw_AWsub (by decide) (fun _ _ => rfl) hS.1) (fun v H locs hp hz hk hS => ?_)
            have l49 : (2 : Int32).toInt = 2 := rfl
            have l50 : (0 : Int32).toInt = 0 := rfl
            have l51 : (3 : Int32).toInt = 3 := rfl
            rcases hp with ⟨x52, x53, rfl, hH, v54, g55, g56, q57, q58⟩ | ⟨x59, x60, rfl, hH, v61, g62, g63, q64, q65⟩
            · refine lv_if_eq (tgt := 59) hx hb dX12_readsLock_45 (by decide) (fun c66 => ?_) (fun c66 => ?_)
              · refine lv_iconst (v := 0) hx hb dX12_readsLock_59 (by decide) ?_
                exact hw_iretM (v := 0) hx hb hr hlocks hQ hS rfl (Or.inl ⟨x52, x53, rl_m, lo_m, rfl, hH, v54, ⟨by first | decide | omega, by first | decide | omega⟩, ⟨by first | decide | omega, by first | decide | omega⟩, ⟨by first | decide | omega, by first | decide | omega⟩, ⟨by first | decide | omega, by first | decide | omega⟩, (by first | rfl | trivial | assumption | omega | (intros; first | rfl | assumption | omega | (exfalso; omega))), (by first | rfl | trivial | assumption | omega | (intros; first | rfl | assumption | omega | (exfalso; omega))), (by first | rfl | trivial | assumption | omega | (intros; first | rfl | assumption | omega | (exfalso; omega)))⟩) dX12_readsLock_60
              · exact absurd c66 (by decide)
            · refine lv_if_eq (tgt := 59) hx hb dX12_readsLock_45 (by decide) (fun c67 => ?_) (fun c67 => ?_)
              · exact absurd c67 (by decide)
              · refine lv_aload_n hx hb dX12_readsLock_48 rfl (lv_at hl 0 rfl) ?_
                refine lv_iconst (v := 3) hx hb dX12_readsLock_49 (by decide) ?_
                refine lv_iconst (v := 0) hx hb dX12_readsLock_50 (by decide) ?_
                refine lv_bipush (v := 30) hx hb dX12_readsLock_51 (by decide) ?_
                refine hw_cM0 (va_runV (As := [.int 3, .int 0, .int 30]) (rest := []) ⟨hx, hb, hml, hown, hts⟩ (k_X12_number l D G h0 3 0 30 _ rm ud_m ky_m lo_m wk_m dk_m ln_m sm_m x59 x60 rk_m rl_m rw_m cl_m dg_m G0 Rm ⟨by first | decide | omega, by first | decide | omega⟩ ⟨by first | decide | omega, by first | decide | omega⟩ ⟨by first | decide | omega, by first | decide | omega⟩ ⟨by first | decide | omega, by first | decide | omega⟩ ⟨by first | decide | omega, by first | decide | omega⟩ ⟨by first | decide | omega, by first | decide | omega⟩ ⟨by first | decide | omega, by first | decide | omega⟩ ⟨by first | decide | omega, by first | decide | omega⟩ ⟨by first | decide | omega, by first | decide | omega⟩ ⟨by first | decide | omega, by first | decide | omega⟩ ⟨by first | decide | omega, by first | decide | omega⟩ ⟨by first | decide | omega, by first | decide | omega⟩ (by first | assumption | decide | omega) (by first | assumption | decide | omega) (by first | assumption | decide | omega)) (cwV 3 hts gX12_readsLock_X12_number rfl rfl rfl (by decide +kernel) ⟨Nat.le_of_ble_eq_true rfl, Nat.le_of_ble_eq_true rfl⟩) (hw_pV (hw_rc (q := (RX12, TX12, 45)) hK v61 rfl) hH hK hST hS (by decide) (fun _ h => Or.inl h) v61) rfl rfl hl.1 rfl (lv_room (Nat.le_of_ble_eq_true rfl)) dX12_readsLock_53 ⟨Nat.le_of_ble_eq_true rfl, Nat.le_of_ble_eq_true rfl⟩) hS (hw_AWsub (by decide) (fun _ _ => rfl) hS.1) (fun v H locs hp hz hk hS => ?_)
                have l68 : (3 : Int32).toInt = 3 := rfl
                have l69 : (0 : Int32).toInt = 0 := rfl
                have l70 : (30 : Int32).toInt = 30 := rfl
                rcases hp with ⟨x71, x72, rfl, hH, v73, g74, g75, q76, q77⟩ | ⟨x78, x79, rfl, hH, v80, g81, g82, q83, q84⟩
                · refine lv_if_ne (tgt := 61) hx hb dX12_readsLock_56 (by decide) (fun c85 => ?_) (fun c85 => ?_)
                  · exact absurd c85 (by decide)
                  · refine lv_iconst (v := 0) hx hb dX12_readsLock_59 (by decide) ?_
                    exact hw_iretM (v := 0) hx hb hr hlocks hQ hS rfl (Or.inl ⟨x71, x72, rl_m, lo_m, rfl, hH, v73, ⟨by first | decide | omega, by first | decide | omega⟩, ⟨by first | decide | omega, by first | decide | omega⟩, ⟨by first | decide | omega, by first | decide | omega⟩, ⟨by first | decide | omega, by first | decide | omega⟩, (by first | rfl | trivial | assumption | omega | (intros; first | rfl | assumption | omega | (exfalso; omega))), (by first | rfl | trivial | assumption | omega | (intros; first | rfl | assumption | omega | (exfalso; omega))), (by first | rfl | trivial | assumption | omega | (intros; first | rfl | assumption | omega | (exfalso; omega)))⟩) dX12_readsLock_60
                · refine lv_if_ne (tgt := 61) hx hb dX12_readsLock_56 (by decide) (fun c86 => ?_) (fun c86 => ?_)
                  · refine lv_aload_n hx hb dX12_readsLock_61 rfl (lv_at hl 0 rfl) ?_
                    refine lv_dup hx hb dX12_readsLock_62 rfl ?_
                    refine hw_get hx hb fg_166_11 hK v80 rfl dX12_readsLock_63 ?_
                    refine lv_iconst (v := 1) hx hb dX12_readsLock_66 (by decide) ?_
                    refine lv_iadd hx hb dX12_readsLock_67 ?_
                    refine lv_topi (fun x87 e88 => ?_)
                    have t89 : x87.toInt = rl_m.toInt + 1 := by rw [e88]; exact hw_add rfl rfl (by omega) (by omega)
                    refine hw_put (v := .int x87) (fs' := hw_LM rm ud_m ky_m lo_m wk_m dk_m ln_m sm_m x78 x79 rk_m x87 rw_m cl_m dg_m) hx hb fp_166_11 hK hH v80 (Nat.le_of_ble_eq_true rfl) rfl rfl rfl (fun _ => by rw [G0]; exact ⟨rm, ud_m, ky_m, lo_m, wk_m, dk_m, ln_m, sm_m, x78, x79, rk_m, x87, rw_m, cl_m, dg_m, rfl, Rm, ⟨by first | decide | omega, by first | decide | omega⟩, ⟨by first | decide | omega, by first | decide | omega⟩, ⟨by first | decide | omega, by first | decide | omega⟩, ⟨by first | decide | omega, by first | decide | omega⟩, ⟨by first | decide | omega, by first | decide | omega⟩, ⟨by first | decide | omega, by first | decide | omega⟩, ⟨by first | decide | omega, by first | decide | omega⟩, ⟨by first | decide | omega, by first | decide | omega⟩, ⟨by first | decide | omega, by first | decide | omega⟩, ⟨by first | decide | omega, by first | decide | omega⟩, ⟨by first | decide | omega, by first | decide | omega⟩, ⟨by first | decide | omega, by first | decide | omega⟩⟩) hS (hw_AWi G0 (by decide)) dX12_readsLock_68 (fun H locs hH v80 oq hz hS => ?_)
                    refine lv_aload_n hx hb dX12_readsLock_71 rfl (lv_at hl 0 rfl) ?_
                    refine hw_get hx hb fg_162_11 hK v80 rfl dX12_readsLock_72 ?_
                    refine lv_if_eq (tgt := 148) hx hb dX12_readsLock_75 (by decide) (fun c90 => ?_) (fun c90 => ?_)
                    · have b91 : dg_m.toInt = 0 := hw_ieq c90
                      refine lv_iconst (v := 1) hx hb dX12_readsLock_148 (by decide) ?_
                      exact hw_iretM (v := 1) hx hb hr hlocks hQ hS rfl (Or.inr (⟨x78, x79, x87, lo_m, rfl, hH, v80, ⟨by first | decide | omega, by first | decide | omega⟩, ⟨by first | decide | omega, by first | decide | omega⟩, ⟨by first | decide | omega, by first | decide | omega⟩, ⟨by first | decide | omega, by first | decide | omega⟩, (by first | rfl | trivial | assumption | omega | (intros; first | rfl | assumption | omega | (exfalso; omega))), (by first | rfl | trivial | assumption | omega | (intros; first | rfl | assumption | omega | (exfalso; omega))), (by first | rfl | trivial | assumption | omega | (intros; first | rfl | assumption | omega | (exfalso; omega)))⟩)) dX12_readsLock_149
                    · have b92 : dg_m.toInt ≠ 0 := hw_ine c90
                      refine lv_aload_n hx hb dX12_readsLock_78 rfl (lv_at hl 0 rfl) ?_
                      refine hw_get hx hb fg_26_11 hK v80 rfl dX12_readsLock_79 ?_
                      refine lv_aload_n hx hb dX12_readsLock_82 rfl (lv_at hl 0 rfl) ?_
                      refine hw_get hx hb fg_145_11 hK v80 rfl dX12_readsLock_83 ?_
                      refine lv_aload_n hx hb dX12_readsLock_86 rfl (lv_at hl 0 rfl) ?_
                      refine hw_get hx hb fg_54_11 hK v80 rfl dX12_readsLock_87 ?_
                      refine lv_iconst (v := 0) hx hb dX12_readsLock_90 (by decide) ?_
                      obtain ⟨f93, v94⟩ := hH.a67 (hw_RM_27 Rm)
                      refine hw_iald hx hb hK v94 (hw_in (x := 0) (by decide) (by decide)) dX12_readsLock_91 ?_
                      refine lv_topi (fun x96 e97 => ?_)
                      obtain ⟨f98, v99⟩ := hH.a48 (hw_RM_8 Rm)
                      refine hw_iast hx hb hK hH v99 (hw_in (by omega) (by omega)) (fun _ => by rw [(hw_RM_8 Rm)]; exact ⟨_, rfl⟩) hS (hw_AWi (hw_RM_8 Rm) (by decide)) dX12_readsLock_92 (fun H locs hH v99 oq hz hS => ?_)
                      have v80 := va_at.kept v80 (oq _ (hw_ne G0 (hw_RM_8 Rm) (by decide)))
                      refine lv_aload_n hx hb dX12_readsLock_93 rfl (lv_at hl 0 rfl) ?_
                      refine hw_get hx hb fg_29_11 hK v80 rfl dX12_readsLock_94 ?_
                      refine lv_aload_n hx hb dX12_readsLock_97 rfl (lv_at hl 0 rfl) ?_
                      refine hw_get hx hb fg_145_11 hK v80 rfl dX12_readsLock_98 ?_
                      refine lv_aload_n hx hb dX12_readsLock_101 rfl (lv_at hl 0 rfl) ?_
                      refine hw_get hx hb fg_54_11 hK v80 rfl dX12_readsLock_102 ?_
                      refine lv_iconst (v := 1) hx hb dX12_readsLock_105 (by decide) ?_
                      obtain ⟨f101, v102⟩ := hH.a67 (hw_RM_27 Rm)
                      refine hw_iald hx hb hK v102 (hw_in (x := 1) (by decide) (by decide)) dX12_readsLock_106 ?_
                      refine lv_topi (fun x104 e105 => ?_)
                      obtain ⟨f106, v107⟩ := hH.a49 (hw_RM_9 Rm)
                      refine hw_iast hx hb hK hH v107 (hw_in (by omega) (by omega)) (fun _ => by rw [(hw_RM_9 Rm)]; exact ⟨_, rfl⟩) hS (hw_AWi (hw_RM_9 Rm) (by decide)) dX12_readsLock_107 (fun H locs hH v107 oq hz hS => ?_)
                      have v80 := va_at.kept v80 (oq _ (hw_ne G0 (hw_RM_9 Rm) (by decide)))
                      refine lv_aload_n hx hb dX12_readsLock_108 rfl (lv_at hl 0 rfl) ?_
                      refine hw_get hx hb fg_32_11 hK v80 rfl dX12_readsLock_109 ?_
                      refine lv_aload_n hx hb dX12_readsLock_112 rfl (lv_at hl 0 rfl) ?_
                      refine hw_get hx hb fg_145_11 hK v80 rfl dX12_readsLock_113 ?_
                      refine lv_aload_n hx hb dX12_readsLock_116 rfl (lv_at hl 0 rfl) ?_
                      refine hw_get hx hb fg_54_11 hK v80 rfl dX12_readsLock_117 ?_
                      refine lv_iconst (v := 2) hx hb dX12_readsLock_120 (by decide) ?_
                      obtain ⟨f109, v110⟩ := hH.a67 (hw_RM_27 Rm)
                      refine hw_iald hx hb hK v110 (hw_in (x := 2) (by decide) (by decide)) dX12_readsLock_121 ?_
                      refine lv_topi (fun x112 e113 => ?_)
                      obtain ⟨f114, v115⟩ := hH.a50 (hw_RM_10 Rm)
                      refine hw_iast hx hb hK hH v115 (hw_in (by omega) (by omega)) (fun _ => by rw [(hw_RM_10 Rm)]; exact ⟨_, rfl⟩) hS (hw_AWi (hw_RM_10 Rm) (by decide)) dX12_readsLock_122 (fun H locs hH v115 oq hz hS => ?_)
                      have v80 := va_at.kept v80 (oq _ (hw_ne G0 (hw_RM_10 Rm) (by decide)))
                      refine lv_aload_n hx hb dX12_readsLock_123 rfl (lv_at hl 0 rfl) ?_
                      refine hw_get hx hb fg_35_11 hK v80 rfl dX12_readsLock_124 ?_
                      refine lv_aload_n hx hb dX12_readsLock_127 rfl (lv_at hl 0 rfl) ?_
                      refine hw_get hx hb fg_145_11 hK v80 rfl dX12_readsLock_128 ?_
                      refine lv_aload_n hx hb dX12_readsLock_131 rfl (lv_at hl 0 rfl) ?_
                      refine hw_get hx hb fg_54_11 hK v80 rfl dX12_readsLock_132 ?_
                      refine lv_iconst (v := 3) hx hb dX12_readsLock_135 (by decide) ?_
                      obtain ⟨f117, v118⟩ := hH.a67 (hw_RM_27 Rm)
                      refine hw_iald hx hb hK v118 (hw_in (x := 3) (by decide) (by decide)) dX12_readsLock_136 ?_
                      refine lv_topi (fun x120 e121 => ?_)
                      obtain ⟨f122, v123⟩ := hH.a51 (hw_RM_11 Rm)
                      refine hw_iast hx hb hK hH v123 (hw_in (by omega) (by omega)) (fun _ => by rw [(hw_RM_11 Rm)]; exact ⟨_, rfl⟩) hS (hw_AWi (hw_RM_11 Rm) (by decide)) dX12_readsLock_137 (fun H locs hH v123 oq hz hS => ?_)
                      have v80 := va_at.kept v80 (oq _ (hw_ne G0 (hw_RM_11 Rm) (by decide)))
                      refine lv_aload_n hx hb dX12_readsLock_138 rfl (lv_at hl 0 rfl) ?_
                      refine lv_dup hx hb dX12_readsLock_139 rfl ?_
                      refine hw_get hx hb fg_145_11 hK v80 rfl dX12_readsLock_140 ?_
                      refine lv_iconst (v := 1) hx hb dX12_readsLock_143 (by decide) ?_
                      refine lv_iadd hx hb dX12_readsLock_144 ?_
                      refine lv_topi (fun x125 e126 => ?_)
                      have t127 : x125.toInt = lo_m.toInt + 1 := by rw [e126]; exact hw_add rfl rfl (by omega) (by omega)
                      refine hw_put (v := .int x125) (fs' := hw_LM rm ud_m ky_m x125 wk_m dk_m ln_m sm_m x78 x79 rk_m x87 rw_m cl_m dg_m) hx hb fp_145_11 hK hH v80 (Nat.le_of_ble_eq_true rfl) rfl rfl rfl (fun _ => by rw [G0]; exact ⟨rm, ud_m, ky_m, x125, wk_m, dk_m, ln_m, sm_m, x78, x79, rk_m, x87, rw_m, cl_m, dg_m, rfl, Rm, ⟨by first | decide | omega, by first | decide | omega⟩, ⟨by first | decide | omega, by first | decide | omega⟩, ⟨by first | decide | omega, by first | decide | omega⟩, ⟨by first | decide | omega, by first | decide | omega⟩, ⟨by first | decide | omega, by first | decide | omega⟩, ⟨by first | decide | omega, by first | decide | omega⟩, ⟨by first | decide | omega, by first | decide | omega⟩, ⟨by first | decide | omega, by first | decide | omega⟩, ⟨by first | decide | omega, by first | decide | omega⟩, ⟨by first | decide | omega, by first | decide | omega⟩, ⟨by first | decide | omega, by first | decide | omega⟩, ⟨by first | decide | omega, by first | decide | omega⟩⟩) hS (hw_AWi G0 (by decide)) dX12_readsLock_145 (fun H locs hH v80 oq hz hS => ?_)
                      refine lv_iconst (v := 1) hx hb dX12_readsLock_148 (by decide) ?_
                      exact hw_iretM (v := 1) hx hb hr hlocks hQ hS rfl (Or.inr (⟨x78, x79, x87, x125, rfl, hH, v80, ⟨by first | decide | omega, by first | decide | omega⟩, ⟨by first | decide | omega, by first | decide | omega⟩, ⟨by first | decide | omega, by first | decide | omega⟩, ⟨by first | decide | omega, by first | decide | omega⟩, (by first | rfl | trivial | assumption | omega | (intros; first | rfl | assumption | omega | (exfalso; omega))), (by first | rfl | trivial | assumption | omega | (intros; first | rfl | assumption | omega | (exfalso; omega))), (by first | rfl | trivial | assumption | omega | (intros; first | rfl | assumption | omega | (exfalso; omega)))⟩)) dX12_readsLock_149
                  · exact absurd c86 (by decide)
  · have b128 : rl_m.toInt = 7 := hw_ieq c1
    refine lv_iconst (v := 0) hx hb dX12_readsLock_9 (by decide) ?_
    exact hw_iretM (v := 0) hx hb hr hlocks hQ hS rfl (Or.inl ⟨fi_m, be_m, rl_m, lo_m, rfl, hH, vm, ⟨by first | decide | omega, by first | decide | omega⟩, ⟨by first | decide | omega, by first | decide | omega⟩, ⟨by first | decide | omega, by first | decide | omega⟩, ⟨by first | decide | omega, by first | decide | omega⟩, (by first | rfl | trivial | assumption | omega | (intros; first | rfl | assumption | omega | (exfalso; omega))), (by first | rfl | trivial | assumption | omega | (intros; first | rfl | assumption | omega | (exfalso; omega))), (by first | rfl | trivial | assumption | omega | (intros; first | rfl | assumption | omega | (exfalso; omega)))⟩) dX12_readsLock_10

set_option maxHeartbeats 4000000 in
set_option maxRecDepth 100000 in
theorem k_X12_readsWalker (l : Launch) (D : hw_D) (G : Nat → Nat) (h0 : Nat) (sz : Nat) (rm : Nat → Nat) (ud_m ky_m lo_m wk_m dk_m ln_m sm_m fi_m be_m rk_m rl_m rw_m cl_m dg_m : Int32) (G0 : G h0 = 9) (Rm : hw_RM G rm) (gud_m : 0 ≤ ud_m.toInt ∧ ud_m.toInt ≤ 8) (gky_m : 0 ≤ ky_m.toInt ∧ ky_m.toInt ≤ 7) (glo_m : 0 ≤ lo_m.toInt ∧ lo_m.toInt ≤ 7) (gwk_m : 0 ≤ wk_m.toInt ∧ wk_m.toInt ≤ 3) (gln_m : 0 ≤ ln_m.toInt ∧ ln_m.toInt ≤ 200) (gsm_m : 0 ≤ sm_m.toInt ∧ sm_m.toInt ≤ 6) (gfi_m : 0 ≤ fi_m.toInt ∧ fi_m.toInt ≤ 200) (gbe_m : 0 ≤ be_m.toInt ∧ be_m.toInt ≤ 200) (grk_m : 0 ≤ rk_m.toInt ∧ rk_m.toInt ≤ 7) (grl_m : 0 ≤ rl_m.toInt ∧ rl_m.toInt ≤ 7) (grw_m : 0 ≤ rw_m.toInt ∧ rw_m.toInt ≤ 3) (gdg_m : 0 ≤ dg_m.toInt ∧ dg_m.toInt ≤ 1) (hf : fi_m.toInt ≤ ln_m.toInt) (hb : be_m.toInt ≤ ln_m.toInt) (hd3 : dg_m.toInt = 1 → wk_m.toInt = rw_m.toInt) : Met l yX12_readsWalker wsX12_readsWalker ({ frames := 4, cells := 0, slots := 0, locals := 90 } : Room) (hw_PC D G [.ref h0] sz (fun H => va_at D.1 vwCl (h0, .inr (11, hw_LM rm ud_m ky_m lo_m wk_m dk_m ln_m sm_m fi_m be_m rk_m rl_m rw_m cl_m dg_m)) H)) (hw_QM (fun v H => (∃ (fi_m2 : Int32) (be_m2 : Int32) (rw_m2 : Int32) (wk_m2 : Int32), v = some (.int 0) ∧ hw_HT D G H ∧ va_at D.1 vwCl (h0, .inr (11, hw_LM rm ud_m ky_m lo_m wk_m2 dk_m ln_m sm_m fi_m2 be_m2 rk_m rl_m rw_m2 cl_m dg_m)) H ∧ (0 ≤ fi_m2.toInt ∧ fi_m2.toInt ≤ 200) ∧ (0 ≤ be_m2.toInt ∧ be_m2.toInt ≤ 200) ∧ (0 ≤ rw_m2.toInt ∧ rw_m2.toInt ≤ 3) ∧ (0 ≤ wk_m2.toInt ∧ wk_m2.toInt ≤ 3) ∧ be_m2.toInt ≤ ln_m.toInt ∧ fi_m2.toInt ≤ ln_m.toInt ∧ (dg_m.toInt = 1 → wk_m2.toInt = rw_m2.toInt)) ∨ (∃ (fi_m2 : Int32) (be_m2 : Int32) (rw_m2 : Int32) (wk_m2 : Int32), v = some (.int 1) ∧ hw_HT D G H ∧ va_at D.1 vwCl (h0, .inr (11, hw_LM rm ud_m ky_m lo_m wk_m2 dk_m ln_m sm_m fi_m2 be_m2 rk_m rl_m rw_m2 cl_m dg_m)) H ∧ (0 ≤ fi_m2.toInt ∧ fi_m2.toInt ≤ 200) ∧ (0 ≤ be_m2.toInt ∧ be_m2.toInt ≤ 200) ∧ (0 ≤ rw_m2.toInt ∧ rw_m2.toInt ≤ 3) ∧ (0 ≤ wk_m2.toInt ∧ wk_m2.toInt ≤ 3) ∧ be_m2.toInt ≤ ln_m.toInt ∧ fi_m2.toInt ≤ ln_m.toInt ∧ (dg_m.toInt = 1 → wk_m2.toInt = rw_m2.toInt))) (hw_AW G [9, 53, 67] sz)) 0 0 (hw_AW G [9, 53, 67] sz) := by
  refine hw_met (cc := cX12_readsWalker) (maxL := 1) (ret := (some .boolean)) (plainFor_of_name (by decide)) rfl (Nat.le_of_ble_eq_true rfl) ?_
  intro p e s m args below meth c QQ ls hsz hx hb hml hr hts hown hlocks hnm hH hK hST hF hQ hl
  subst hsz
  have hS : va_S (hw_AW G [9, 53, 67] s.heap.size) s.heap s.heap [] := va_S.rf
  have vm := hF
  have hl : lv_has ls 1 [(0, .ref h0)] := hl
  have u_11 : ∀ w ∈ u_ws RX12 TX12 45, w.before args s = true := fun w hw => hts w ((by decide +kernel : ∀ w ∈ u_ws RX12 TX12 45, w ∈ wsX12_readsWalker) w hw)
  have fg_169_11 : hw_FG s args m 169 11 24 := ⟨RX12, "WardWalkersModel", RX12, TX12, 45, u_11, hown, rfl, by decide, (hts (.fieldLink RX12 169 "WardWalkersModel" "readWalkers" "I") (by decide +kernel)), (fun _ h9 => h9)⟩
  have fp_169_11 : hw_FP s args m 169 11 24 false .int := ⟨RX12, "WardWalkersModel", RX12, TX12, 45, tyX12, u_11, hown, rfl, by decide, (hts (.fieldLink RX12 169 "WardWalkersModel" "readWalkers" "I") (by decide +kernel)), (fun _ h9 => h9), tyX12_ok, nmX12, rfl, (fun h => by cases h), by decide +kernel⟩
  have fg_162_11 : hw_FG s args m 162 11 26 := ⟨RX12, "WardWalkersModel", RX12, TX12, 45, u_11, hown, rfl, by decide, (hts (.fieldLink RX12 162 "WardWalkersModel" "doing" "Z") (by decide +kernel)), (fun _ h9 => h9)⟩
  have fg_38_11 : hw_FG s args m 38 11 13 := ⟨RX12, "WardWalkersModel", RX12, TX12, 45, u_11, hown, rfl, by decide, (hts (.fieldLink RX12 38 "WardWalkersModel" "begun" "[I") (by decide +kernel)), (fun _ h9 => h9)⟩
  have fg_148_11 : hw_FG s args m 148 11 12 := ⟨RX12, "WardWalkersModel", RX12, TX12, 45, u_11, hown, rfl, by decide, (hts (.fieldLink RX12 148 "WardWalkersModel" "walkers" "I") (by decide +kernel)), (fun _ h9 => h9)⟩
  have fg_54_11 : hw_FG s args m 54 11 27 := ⟨RX12, "WardWalkersModel", RX12, TX12, 45, u_11, hown, rfl, by decide, (hts (.fieldLink RX12 54 "WardWalkersModel" "numbers" "[I") (by decide +kernel)), (fun _ h9 => h9)⟩
  have fp_148_11 : hw_FP s args m 148 11 12 false .int := ⟨RX12, "WardWalkersModel", RX12, TX12, 45, tyX12, u_11, hown, rfl, by decide, (hts (.fieldLink RX12 148 "WardWalkersModel" "walkers" "I") (by decide +kernel)), (fun _ h9 => h9), tyX12_ok, nmX12, rfl, (fun h => by cases h), by decide +kernel⟩
  refine lv_aload_n hx hb dX12_readsWalker_0 rfl (lv_at hl 0 rfl) ?_
  refine hw_get hx hb fg_169_11 hK vm rfl dX12_readsWalker_1 ?_
  refine lv_iconst (v := 3) hx hb dX12_readsWalker_4 (by decide) ?_
  refine lv_icmp_ne (tgt := 10) hx hb dX12_readsWalker_5 (by decide) (fun c1 => ?_) (fun c1 => ?_)
  · have b2 : rw_m.toInt ≠ 3 := hw_ine c1
    refine lv_aload_n hx hb dX12_readsWalker_10 rfl (lv_at hl 0 rfl) ?_
    refine hw_cM0 (va_runV (As := []) (rest := []) ⟨hx, hb, hml, hown, hts⟩ (k_X12_nextToken l D G h0 _ rm ud_m ky_m lo_m wk_m dk_m ln_m sm_m fi_m be_m rk_m rl_m rw_m cl_m dg_m G0 Rm ⟨by first | decide | omega, by first | decide | omega⟩ ⟨by first | decide | omega, by first | decide | omega⟩ ⟨by first | decide | omega, by first | decide | omega⟩ ⟨by first | decide | omega, by first | decide | omega⟩ ⟨by first | decide | omega, by first | decide | omega⟩ ⟨by first | decide | omega, by first | decide | omega⟩ ⟨by first | decide | omega, by first | decide | omega⟩ ⟨by first | decide | omega, by first | decide | omega⟩ ⟨by first | decide | omega, by first | decide | omega⟩ ⟨by first | decide | omega, by first | decide | omega⟩ ⟨by first | decide | omega, by first | decide | omega⟩ ⟨by first | decide | omega, by first | decide | omega⟩) (cwV 0 hts gX12_readsWalker_X12_nextToken rfl rfl rfl (by decide +kernel) ⟨Nat.le_of_ble_eq_true rfl, Nat.le_of_ble_eq_true rfl⟩) (hw_pV (hw_rc (q := (RX12, TX12, 45)) hK vm rfl) hH hK hST hS (by decide) (fun _ h => Or.inl h) vm) rfl rfl hl.1 rfl (lv_room (Nat.le_of_ble_eq_true rfl)) dX12_readsWalker_11 ⟨Nat.le_of_ble_eq_true rfl, Nat.le_of_ble_eq_true rfl⟩) hS (hw_AWsub (by decide) (fun _ _ => rfl) hS.1) (fun v H locs hp hz hk hS => ?_)
    obtain ⟨x3, x4, rfl, hH, v5, g6, g7, q8, q9, q10⟩ := hp
    refine lv_aload_n hx hb dX12_readsWalker_14 rfl (lv_at hl 0 rfl) ?_
    refine lv_iconst (v := 0) hx hb dX12_readsWalker_15 (by decide) ?_
    refine lv_iconst (v := 0) hx hb dX12_readsWalker_16 (by decide) ?_
    refine lv_bipush (v := 99) hx hb dX12_readsWalker_17 (by decide) ?_
    refine hw_cM0 (va_runV (As := [.int 0, .int 0, .int 99]) (rest := []) ⟨hx, hb, hml, hown, hts⟩ (k_X12_number l D G h0 0 0 99 _ rm ud_m ky_m lo_m wk_m dk_m ln_m sm_m x3 x4 rk_m rl_m rw_m cl_m dg_m G0 Rm ⟨by first | decide | omega, by first | decide | omega⟩ ⟨by first | decide | omega, by first | decide | omega⟩ ⟨by first | decide | omega, by first | decide | omega⟩ ⟨by first | decide | omega, by first | decide | omega⟩ ⟨by first | decide | omega, by first | decide | omega⟩ ⟨by first | decide | omega, by first | decide | omega⟩ ⟨by first | decide | omega, by first | decide | omega⟩ ⟨by first | decide | omega, by first | decide | omega⟩ ⟨by first | decide | omega, by first | decide | omega⟩ ⟨by first | decide | omega, by first | decide | omega⟩ ⟨by first | decide | omega, by first | decide | omega⟩ ⟨by first | decide | omega, by first | decide | omega⟩ (by first | assumption | decide | omega) (by first | assumption | decide | omega) (by first | assumption | decide | omega)) (cwV 3 hts gX12_readsWalker_X12_number rfl rfl rfl (by decide +kernel) ⟨Nat.le_of_ble_eq_true rfl, Nat.le_of_ble_eq_true rfl⟩) (hw_pV (hw_rc (q := (RX12, TX12, 45)) hK v5 rfl) hH hK hST hS (by decide) (fun _ h => Or.inl h) v5) rfl rfl hl.1 rfl (lv_room (Nat.le_of_ble_eq_true rfl)) dX12_readsWalker_19 ⟨Nat.le_of_ble_eq_true rfl, Nat.le_of_ble_eq_true rfl⟩) hS (hw_AWsub (by decide) (fun _ _ => rfl) hS.1) (fun v H locs hp hz hk hS => ?_)
    have l11 : (0 : Int32).toInt = 0 := rfl
    have l12 : (0 : Int32).toInt = 0 := rfl
    have l13 : (99 : Int32).toInt = 99 := rfl
    rcases hp with ⟨x14, x15, rfl, hH, v16, g17, g18, q19, q20⟩ | ⟨x21, x22, rfl, hH, v23, g24, g25, q26, q27⟩
    · refine lv_if_ne (tgt := 27) hx hb dX12_readsWalker_22 (by decide) (fun c28 => ?_) (fun c28 => ?_)
      · exact absurd c28 (by decide)
      · refine lv_iconst (v := 0) hx hb dX12_readsWalker_25 (by decide) ?_
        exact hw_iretM (v := 0) hx hb hr hlocks hQ hS rfl (Or.inl ⟨x14, x15, rw_m, wk_m, rfl, hH, v16, ⟨by first | decide | omega, by first | decide | omega⟩, ⟨by first | decide | omega, by first | decide | omega⟩, ⟨by first | decide | omega, by first | decide | omega⟩, ⟨by first | decide | omega, by first | decide | omega⟩, (by first | rfl | trivial | assumption | omega | (intros; first | rfl | assumption | omega | (exfalso; omega))), (by first | rfl | trivial | assumption | omega | (intros; first | rfl | assumption | omega | (exfalso; omega))), (by first | rfl | trivial | assumption | omega | (intros; first | rfl | assumption | omega | (exfalso; omega)))⟩) dX12_readsWalker_26
    · refine lv_if_ne (tgt := 27) hx hb dX12_readsWalker_22 (by decide) (fun c29 => ?_) (fun c29 => ?_)
      · refine lv_aload_n hx hb dX12_readsWalker_27 rfl (lv_at hl 0 rfl) ?_
        refine lv_dup hx hb dX12_readsWalker_28 rfl ?_
        refine hw_get hx hb fg_169_11 hK v23 rfl dX12_readsWalker_29 ?_
        refine lv_iconst (v := 1) hx hb dX12_readsWalker_32 (by decide) ?_
        refine lv_iadd hx hb dX12_readsWalker_33 ?_
        refine lv_topi (fun x30 e31 => ?_)
        have t32 : x30.toInt = rw_m.toInt + 1 := by rw [e31]; exact hw_add rfl rfl (by omega) (by omega)
        refine hw_put (v := .int x30) (fs' := hw_LM rm ud_m ky_m lo_m wk_m dk_m ln_m sm_m x21 x22 rk_m rl_m x30 cl_m dg_m) hx hb fp_169_11 hK hH v23 (Nat.le_of_ble_eq_true rfl) rfl rfl rfl (fun _ => by rw [G0]; exact ⟨rm, ud_m, ky_m, lo_m, wk_m, dk_m, ln_m, sm_m, x21, x22, rk_m, rl_m, x30, cl_m, dg_m, rfl, Rm, ⟨by first | decide | omega, by first | decide | omega⟩, ⟨by first | decide | omega, by first | decide | omega⟩, ⟨by first | decide | omega, by first | decide | omega⟩, ⟨by first | decide | omega, by first | decide | omega⟩, ⟨by first | decide | omega, by first | decide | omega⟩, ⟨by first | decide | omega, by first | decide | omega⟩, ⟨by first | decide | omega, by first | decide | omega⟩, ⟨by first | decide | omega, by first | decide | omega⟩, ⟨by first | decide | omega, by first | decide | omega⟩, ⟨by first | decide | omega, by first | decide | omega⟩, ⟨by first | decide | omega, by first | decide | omega⟩, ⟨by first | decide | omega, by first | decide | omega⟩⟩) hS (hw_AWi G0 (by decide)) dX12_readsWalker_34 (fun H locs hH v23 oq hz hS => ?_)
        refine lv_aload_n hx hb dX12_readsWalker_37 rfl (lv_at hl 0 rfl) ?_
        refine hw_get hx hb fg_162_11 hK v23 rfl dX12_readsWalker_38 ?_
        refine lv_if_eq (tgt := 69) hx hb dX12_readsWalker_41 (by decide) (fun c33 => ?_) (fun c33 => ?_)
        · have b34 : dg_m.toInt = 0 := hw_ieq c33
          refine lv_iconst (v := 1) hx hb dX12_readsWalker_69 (by decide) ?_
          exact hw_iretM (v := 1) hx hb hr hlocks hQ hS rfl (Or.inr (⟨x21, x22, x30, wk_m, rfl, hH, v23, ⟨by first | decide | omega, by first | decide | omega⟩, ⟨by first | decide | omega, by first | decide | omega⟩, ⟨by first | decide | omega, by first | decide | omega⟩, ⟨by first | decide | omega, by first | decide | omega⟩, (by first | rfl | trivial | assumption | omega | (intros; first | rfl | assumption | omega | (exfalso; omega))), (by first | rfl | trivial | assumption | omega | (intros; first | rfl | assumption | omega | (exfalso; omega))), (by first | rfl | trivial | assumption | omega | (intros; first | rfl | assumption | omega | (exfalso; omega)))⟩)) dX12_readsWalker_70
        · have b35 : dg_m.toInt ≠ 0 := hw_ine c33
          refine lv_aload_n hx hb dX12_readsWalker_44 rfl (lv_at hl 0 rfl) ?_
          refine hw_get hx hb fg_38_11 hK v23 rfl dX12_readsWalker_45 ?_
          refine lv_aload_n hx hb dX12_readsWalker_48 rfl (lv_at hl 0 rfl) ?_
          refine hw_get hx hb fg_148_11 hK v23 rfl dX12_readsWalker_49 ?_
          refine lv_aload_n hx hb dX12_readsWalker_52 rfl (lv_at hl 0 rfl) ?_
          refine hw_get hx hb fg_54_11 hK v23 rfl dX12_readsWalker_53 ?_
          refine lv_iconst (v := 0) hx hb dX12_readsWalker_56 (by decide) ?_
          obtain ⟨f36, v37⟩ := hH.a67 (hw_RM_27 Rm)
          refine hw_iald hx hb hK v37 (hw_in (x := 0) (by decide) (by decide)) dX12_readsWalker_57 ?_
          refine lv_topi (fun x39 e40 => ?_)
          obtain ⟨f41, v42⟩ := hH.a53 (hw_RM_13 Rm)
          refine hw_iast hx hb hK hH v42 (hw_in (by omega) (by omega)) (fun _ => by rw [(hw_RM_13 Rm)]; exact ⟨_, rfl⟩) hS (hw_AWi (hw_RM_13 Rm) (by decide)) dX12_readsWalker_58 (fun H locs hH v42 oq hz hS => ?_)
          have v23 := va_at.kept v23 (oq _ (hw_ne G0 (hw_RM_13 Rm) (by decide)))
          refine lv_aload_n hx hb dX12_readsWalker_59 rfl (lv_at hl 0 rfl) ?_
          refine lv_dup hx hb dX12_readsWalker_60 rfl ?_
          refine hw_get hx hb fg_148_11 hK v23 rfl dX12_readsWalker_61 ?_
          refine lv_iconst (v := 1) hx hb dX12_readsWalker_64 (by decide) ?_
          refine lv_iadd hx hb dX12_readsWalker_65 ?_
          refine lv_topi (fun x44 e45 => ?_)
          have t46 : x44.toInt = wk_m.toInt + 1 := by rw [e45]; exact hw_add rfl rfl (by omega) (by omega)
          refine hw_put (v := .int x44) (fs' := hw_LM rm ud_m ky_m lo_m x44 dk_m ln_m sm_m x21 x22 rk_m rl_m x30 cl_m dg_m) hx hb fp_148_11 hK hH v23 (Nat.le_of_ble_eq_true rfl) rfl rfl rfl (fun _ => by rw [G0]; exact ⟨rm, ud_m, ky_m, lo_m, x44, dk_m, ln_m, sm_m, x21, x22, rk_m, rl_m, x30, cl_m, dg_m, rfl, Rm, ⟨by first | decide | omega, by first | decide | omega⟩, ⟨by first | decide | omega, by first | decide | omega⟩, ⟨by first | decide | omega, by first | decide | omega⟩, ⟨by first | decide | omega, by first | decide | omega⟩, ⟨by first | decide | omega, by first | decide | omega⟩, ⟨by first | decide | omega, by first | decide | omega⟩, ⟨by first | decide | omega, by first | decide | omega⟩, ⟨by first | decide | omega, by first | decide | omega⟩, ⟨by first | decide | omega, by first | decide | omega⟩, ⟨by first | decide | omega, by first | decide | omega⟩, ⟨by first | decide | omega, by first | decide | omega⟩, ⟨by first | decide | omega, by first | decide | omega⟩⟩) hS (hw_AWi G0 (by decide)) dX12_readsWalker_66 (fun H locs hH v23 oq hz hS => ?_)
          refine lv_iconst (v := 1) hx hb dX12_readsWalker_69 (by decide) ?_
          exact hw_iretM (v := 1) hx hb hr hlocks hQ hS rfl (Or.inr (⟨x21, x22, x30, x44, rfl, hH, v23, ⟨by first | decide | omega, by first | decide | omega⟩, ⟨by first | decide | omega, by first | decide | omega⟩, ⟨by first | decide | omega, by first | decide | omega⟩, ⟨by first | decide | omega, by first | decide | omega⟩, (by first | rfl | trivial | assumption | omega | (intros; first | rfl | assumption | omega | (exfalso; omega))), (by first | rfl | trivial | assumption | omega | (intros; first | rfl | assumption | omega | (exfalso; omega))), (by first | rfl | trivial | assumption | omega | (intros; first | rfl | assumption | omega | (exfalso; omega)))⟩)) dX12_readsWalker_70
      · exact absurd c29 (by decide)
  · have b47 : rw_m.toInt = 3 := hw_ieq c1
    refine lv_iconst (v := 0) hx hb dX12_readsWalker_8 (by decide) ?_
    exact hw_iretM (v := 0) hx hb hr hlocks hQ hS rfl (Or.inl ⟨fi_m, be_m, rw_m, wk_m, rfl, hH, vm, ⟨by first | decide | omega, by first | decide | omega⟩, ⟨by first | decide | omega, by first | decide | omega⟩, ⟨by first | decide | omega, by first | decide | omega⟩, ⟨by first | decide | omega, by first | decide | omega⟩, (by first | rfl | trivial | assumption | omega | (intros; first | rfl | assumption | omega | (exfalso; omega))), (by first | rfl | trivial | assumption | omega | (intros; first | rfl | assumption | omega | (exfalso; omega))), (by first | rfl | trivial | assumption | omega | (intros; first | rfl | assumption | omega | (exfalso; omega)))⟩) dX12_readsWalker_9

set_option maxHeartbeats 4000000 in
set_option maxRecDepth 100000 in
theorem k_X12_readsDark (l : Launch) (D : hw_D) (G : Nat → Nat) (h0 : Nat) (sz : Nat) (rm : Nat → Nat) (ud_m ky_m lo_m wk_m dk_m ln_m sm_m fi_m be_m rk_m rl_m rw_m cl_m dg_m : Int32) (G0 : G h0 = 9) (Rm : hw_RM G rm) (gud_m : 0 ≤ ud_m.toInt ∧ ud_m.toInt ≤ 8) (gky_m : 0 ≤ ky_m.toInt ∧ ky_m.toInt ≤ 7) (glo_m : 0 ≤ lo_m.toInt ∧ lo_m.toInt ≤ 7) (gwk_m : 0 ≤ wk_m.toInt ∧ wk_m.toInt ≤ 3) (gln_m : 0 ≤ ln_m.toInt ∧ ln_m.toInt ≤ 200) (gsm_m : 0 ≤ sm_m.toInt ∧ sm_m.toInt ≤ 6) (gfi_m : 0 ≤ fi_m.toInt ∧ fi_m.toInt ≤ 200) (gbe_m : 0 ≤ be_m.toInt ∧ be_m.toInt ≤ 200) (grk_m : 0 ≤ rk_m.toInt ∧ rk_m.toInt ≤ 7) (grl_m : 0 ≤ rl_m.toInt ∧ rl_m.toInt ≤ 7) (grw_m : 0 ≤ rw_m.toInt ∧ rw_m.toInt ≤ 3) (gdg_m : 0 ≤ dg_m.toInt ∧ dg_m.toInt ≤ 1) (hb : be_m.toInt ≤ ln_m.toInt) : Met l yX12_readsDark wsX12_readsDark ({ frames := 4, cells := 0, slots := 0, locals := 90 } : Room) (hw_PC D G [.ref h0] sz (fun H => va_at D.1 vwCl (h0, .inr (11, hw_LM rm ud_m ky_m lo_m wk_m dk_m ln_m sm_m fi_m be_m rk_m rl_m rw_m cl_m dg_m)) H)) (hw_QM (fun v H => (∃ (fi_m2 : Int32) (be_m2 : Int32) (dk_m2 : Int32), v = some (.int 0) ∧ hw_HT D G H ∧ va_at D.1 vwCl (h0, .inr (11, hw_LM rm ud_m ky_m lo_m wk_m dk_m2 ln_m sm_m fi_m2 be_m2 rk_m rl_m rw_m cl_m dg_m)) H ∧ (0 ≤ fi_m2.toInt ∧ fi_m2.toInt ≤ 200) ∧ (0 ≤ be_m2.toInt ∧ be_m2.toInt ≤ 200) ∧ be_m2.toInt ≤ ln_m.toInt ∧ fi_m2.toInt ≤ ln_m.toInt) ∨ (∃ (fi_m2 : Int32) (be_m2 : Int32) (dk_m2 : Int32), v = some (.int 1) ∧ hw_HT D G H ∧ va_at D.1 vwCl (h0, .inr (11, hw_LM rm ud_m ky_m lo_m wk_m dk_m2 ln_m sm_m fi_m2 be_m2 rk_m rl_m rw_m cl_m dg_m)) H ∧ (0 ≤ fi_m2.toInt ∧ fi_m2.toInt ≤ 200) ∧ (0 ≤ be_m2.toInt ∧ be_m2.toInt ≤ 200) ∧ be_m2.toInt ≤ ln_m.toInt ∧ fi_m2.toInt ≤ ln_m.toInt)) (hw_AW G [9, 67] sz)) 0 0 (hw_AW G [9, 67] sz) := by
  refine hw_met (cc := cX12_readsDark) (maxL := 1) (ret := (some .boolean)) (plainFor_of_name (by decide)) rfl (Nat.le_of_ble_eq_true rfl) ?_
  intro p e s m args below meth c QQ ls hsz hx hb hml hr hts hown hlocks hnm hH hK hST hF hQ hl
  subst hsz
  have hS : va_S (hw_AW G [9, 67] s.heap.size) s.heap s.heap [] := va_S.rf
  have vm := hF
  have hl : lv_has ls 1 [(0, .ref h0)] := hl
  have u_11 : ∀ w ∈ u_ws RX12 TX12 45, w.before args s = true := fun w hw => hts w ((by decide +kernel : ∀ w ∈ u_ws RX12 TX12 45, w ∈ wsX12_readsDark) w hw)
  have fg_162_11 : hw_FG s args m 162 11 26 := ⟨RX12, "WardWalkersModel", RX12, TX12, 45, u_11, hown, rfl, by decide, (hts (.fieldLink RX12 162 "WardWalkersModel" "doing" "Z") (by decide +kernel)), (fun _ h9 => h9)⟩
  have fg_41_11 : hw_FG s args m 41 11 14 := ⟨RX12, "WardWalkersModel", RX12, TX12, 45, u_11, hown, rfl, by decide, (hts (.fieldLink RX12 41 "WardWalkersModel" "dark" "I") (by decide +kernel)), (fun _ h9 => h9)⟩
  have fp_41_11 : hw_FP s args m 41 11 14 false .int := ⟨RX12, "WardWalkersModel", RX12, TX12, 45, tyX12, u_11, hown, rfl, by decide, (hts (.fieldLink RX12 41 "WardWalkersModel" "dark" "I") (by decide +kernel)), (fun _ h9 => h9), tyX12_ok, nmX12, rfl, (fun h => by cases h), by decide +kernel⟩
  have fg_54_11 : hw_FG s args m 54 11 27 := ⟨RX12, "WardWalkersModel", RX12, TX12, 45, u_11, hown, rfl, by decide, (hts (.fieldLink RX12 54 "WardWalkersModel" "numbers" "[I") (by decide +kernel)), (fun _ h9 => h9)⟩
  refine lv_aload_n hx hb dX12_readsDark_0 rfl (lv_at hl 0 rfl) ?_
  refine hw_cM0 (va_runV (As := []) (rest := []) ⟨hx, hb, hml, hown, hts⟩ (k_X12_nextToken l D G h0 _ rm ud_m ky_m lo_m wk_m dk_m ln_m sm_m fi_m be_m rk_m rl_m rw_m cl_m dg_m G0 Rm ⟨by first | decide | omega, by first | decide | omega⟩ ⟨by first | decide | omega, by first | decide | omega⟩ ⟨by first | decide | omega, by first | decide | omega⟩ ⟨by first | decide | omega, by first | decide | omega⟩ ⟨by first | decide | omega, by first | decide | omega⟩ ⟨by first | decide | omega, by first | decide | omega⟩ ⟨by first | decide | omega, by first | decide | omega⟩ ⟨by first | decide | omega, by first | decide | omega⟩ ⟨by first | decide | omega, by first | decide | omega⟩ ⟨by first | decide | omega, by first | decide | omega⟩ ⟨by first | decide | omega, by first | decide | omega⟩ ⟨by first | decide | omega, by first | decide | omega⟩) (cwV 0 hts gX12_readsDark_X12_nextToken rfl rfl rfl (by decide +kernel) ⟨Nat.le_of_ble_eq_true rfl, Nat.le_of_ble_eq_true rfl⟩) (hw_pV (hw_rc (q := (RX12, TX12, 45)) hK vm rfl) hH hK hST hS (by decide) (fun _ h => Or.inl h) vm) rfl rfl hl.1 rfl (lv_room (Nat.le_of_ble_eq_true rfl)) dX12_readsDark_1 ⟨Nat.le_of_ble_eq_true rfl, Nat.le_of_ble_eq_true rfl⟩) hS (hw_AWsub (by decide) (fun _ _ => rfl) hS.1) (fun v H locs hp hz hk hS => ?_)
  obtain ⟨x1, x2, rfl, hH, v3, g4, g5, q6, q7, q8⟩ := hp
  refine lv_aload_n hx hb dX12_readsDark_4 rfl (lv_at hl 0 rfl) ?_
  refine lv_iconst (v := 0) hx hb dX12_readsDark_5 (by decide) ?_
  refine lv_bipush (v := 10) hx hb dX12_readsDark_6 (by decide) ?_
  refine lv_bipush (v := 99) hx hb dX12_readsDark_8 (by decide) ?_
  refine hw_cM0 (va_runV (As := [.int 0, .int 10, .int 99]) (rest := []) ⟨hx, hb, hml, hown, hts⟩ (k_X12_number l D G h0 0 10 99 _ rm ud_m ky_m lo_m wk_m dk_m ln_m sm_m x1 x2 rk_m rl_m rw_m cl_m dg_m G0 Rm ⟨by first | decide | omega, by first | decide | omega⟩ ⟨by first | decide | omega, by first | decide | omega⟩ ⟨by first | decide | omega, by first | decide | omega⟩ ⟨by first | decide | omega, by first | decide | omega⟩ ⟨by first | decide | omega, by first | decide | omega⟩ ⟨by first | decide | omega, by first | decide | omega⟩ ⟨by first | decide | omega, by first | decide | omega⟩ ⟨by first | decide | omega, by first | decide | omega⟩ ⟨by first | decide | omega, by first | decide | omega⟩ ⟨by first | decide | omega, by first | decide | omega⟩ ⟨by first | decide | omega, by first | decide | omega⟩ ⟨by first | decide | omega, by first | decide | omega⟩ (by first | assumption | decide | omega) (by first | assumption | decide | omega) (by first | assumption | decide | omega)) (cwV 3 hts gX12_readsDark_X12_number rfl rfl rfl (by decide +kernel) ⟨Nat.le_of_ble_eq_true rfl, Nat.le_of_ble_eq_true rfl⟩) (hw_pV (hw_rc (q := (RX12, TX12, 45)) hK v3 rfl) hH hK hST hS (by decide) (fun _ h => Or.inl h) v3) rfl rfl hl.1 rfl (lv_room (Nat.le_of_ble_eq_true rfl)) dX12_readsDark_10 ⟨Nat.le_of_ble_eq_true rfl, Nat.le_of_ble_eq_true rfl⟩) hS (hw_AWsub (by decide) (fun _ _ => rfl) hS.1) (fun v H locs hp hz hk hS => ?_)
  have l9 : (0 : Int32).toInt = 0 := rfl
  have l10 : (10 : Int32).toInt = 10 := rfl
  have l11 : (99 : Int32).toInt = 99 := rfl
  rcases hp with ⟨x12, x13, rfl, hH, v14, g15, g16, q17, q18⟩ | ⟨x19, x20, rfl, hH, v21, g22, g23, q24, q25⟩
  · refine lv_if_ne (tgt := 18) hx hb dX12_readsDark_13 (by decide) (fun c26 => ?_) (fun c26 => ?_)
    · exact absurd c26 (by decide)
    · refine lv_iconst (v := 0) hx hb dX12_readsDark_16 (by decide) ?_
      exact hw_iretM (v := 0) hx hb hr hlocks hQ hS rfl (Or.inl ⟨x12, x13, dk_m, rfl, hH, v14, ⟨by first | decide | omega, by first | decide | omega⟩, ⟨by first | decide | omega, by first | decide | omega⟩, (by first | rfl | trivial | assumption | omega | (intros; first | rfl | assumption | omega | (exfalso; omega))), (by first | rfl | trivial | assumption | omega | (intros; first | rfl | assumption | omega | (exfalso; omega)))⟩) dX12_readsDark_17
  · refine lv_if_ne (tgt := 18) hx hb dX12_readsDark_13 (by decide) (fun c27 => ?_) (fun c27 => ?_)
    · refine lv_aload_n hx hb dX12_readsDark_18 rfl (lv_at hl 0 rfl) ?_
      refine lv_aload_n hx hb dX12_readsDark_19 rfl (lv_at hl 0 rfl) ?_
      refine hw_get hx hb fg_162_11 hK v21 rfl dX12_readsDark_20 ?_
      refine lv_if_eq (tgt := 35) hx hb dX12_readsDark_23 (by decide) (fun c28 => ?_) (fun c28 => ?_)
      · have b29 : dg_m.toInt = 0 := hw_ieq c28
        refine lv_aload_n hx hb dX12_readsDark_35 rfl (lv_at hl 0 rfl) ?_
        refine hw_get hx hb fg_41_11 hK v21 rfl dX12_readsDark_36 ?_
        refine hw_put (v := .int dk_m) (fs' := hw_LM rm ud_m ky_m lo_m wk_m dk_m ln_m sm_m x19 x20 rk_m rl_m rw_m cl_m dg_m) hx hb fp_41_11 hK hH v21 (Nat.le_of_ble_eq_true rfl) rfl rfl rfl (fun _ => by rw [G0]; exact ⟨rm, ud_m, ky_m, lo_m, wk_m, dk_m, ln_m, sm_m, x19, x20, rk_m, rl_m, rw_m, cl_m, dg_m, rfl, Rm, ⟨by first | decide | omega, by first | decide | omega⟩, ⟨by first | decide | omega, by first | decide | omega⟩, ⟨by first | decide | omega, by first | decide | omega⟩, ⟨by first | decide | omega, by first | decide | omega⟩, ⟨by first | decide | omega, by first | decide | omega⟩, ⟨by first | decide | omega, by first | decide | omega⟩, ⟨by first | decide | omega, by first | decide | omega⟩, ⟨by first | decide | omega, by first | decide | omega⟩, ⟨by first | decide | omega, by first | decide | omega⟩, ⟨by first | decide | omega, by first | decide | omega⟩, ⟨by first | decide | omega, by first | decide | omega⟩, ⟨by first | decide | omega, by first | decide | omega⟩⟩) hS (hw_AWi G0 (by decide)) dX12_readsDark_39 (fun H locs hH v21 oq hz hS => ?_)
        refine lv_iconst (v := 1) hx hb dX12_readsDark_42 (by decide) ?_
        exact hw_iretM (v := 1) hx hb hr hlocks hQ hS rfl (Or.inr (⟨x19, x20, dk_m, rfl, hH, v21, ⟨by first | decide | omega, by first | decide | omega⟩, ⟨by first | decide | omega, by first | decide | omega⟩, (by first | rfl | trivial | assumption | omega | (intros; first | rfl | assumption | omega | (exfalso; omega))), (by first | rfl | trivial | assumption | omega | (intros; first | rfl | assumption | omega | (exfalso; omega)))⟩)) dX12_readsDark_43
      · have b30 : dg_m.toInt ≠ 0 := hw_ine c28
        refine lv_aload_n hx hb dX12_readsDark_26 rfl (lv_at hl 0 rfl) ?_
        refine hw_get hx hb fg_54_11 hK v21 rfl dX12_readsDark_27 ?_
        refine lv_iconst (v := 0) hx hb dX12_readsDark_30 (by decide) ?_
        obtain ⟨f31, v32⟩ := hH.a67 (hw_RM_27 Rm)
        refine hw_iald hx hb hK v32 (hw_in (x := 0) (by decide) (by decide)) dX12_readsDark_31 ?_
        refine lv_topi (fun x34 e35 => ?_)
        refine lv_goto (tgt := 39) hx hb dX12_readsDark_32 (by decide) ?_
        refine hw_put (v := .int x34) (fs' := hw_LM rm ud_m ky_m lo_m wk_m x34 ln_m sm_m x19 x20 rk_m rl_m rw_m cl_m dg_m) hx hb fp_41_11 hK hH v21 (Nat.le_of_ble_eq_true rfl) rfl rfl rfl (fun _ => by rw [G0]; exact ⟨rm, ud_m, ky_m, lo_m, wk_m, x34, ln_m, sm_m, x19, x20, rk_m, rl_m, rw_m, cl_m, dg_m, rfl, Rm, ⟨by first | decide | omega, by first | decide | omega⟩, ⟨by first | decide | omega, by first | decide | omega⟩, ⟨by first | decide | omega, by first | decide | omega⟩, ⟨by first | decide | omega, by first | decide | omega⟩, ⟨by first | decide | omega, by first | decide | omega⟩, ⟨by first | decide | omega, by first | decide | omega⟩, ⟨by first | decide | omega, by first | decide | omega⟩, ⟨by first | decide | omega, by first | decide | omega⟩, ⟨by first | decide | omega, by first | decide | omega⟩, ⟨by first | decide | omega, by first | decide | omega⟩, ⟨by first | decide | omega, by first | decide | omega⟩, ⟨by first | decide | omega, by first | decide | omega⟩⟩) hS (hw_AWi G0 (by decide)) dX12_readsDark_39 (fun H locs hH v21 oq hz hS => ?_)
        refine lv_iconst (v := 1) hx hb dX12_readsDark_42 (by decide) ?_
        exact hw_iretM (v := 1) hx hb hr hlocks hQ hS rfl (Or.inr (⟨x19, x20, x34, rfl, hH, v21, ⟨by first | decide | omega, by first | decide | omega⟩, ⟨by first | decide | omega, by first | decide | omega⟩, (by first | rfl | trivial | assumption | omega | (intros; first | rfl | assumption | omega | (exfalso; omega))), (by first | rfl | trivial | assumption | omega | (intros; first | rfl | assumption | omega | (exfalso; omega)))⟩)) dX12_readsDark_43
    · exact absurd c27 (by decide)

set_option maxHeartbeats 4000000 in
set_option maxRecDepth 100000 in
theorem k_X12_readsLand (l : Launch) (D : hw_D) (G : Nat → Nat) (h0 : Nat) (sz : Nat) (rm : Nat → Nat) (ud_m ky_m lo_m wk_m dk_m ln_m sm_m fi_m be_m rk_m rl_m rw_m cl_m dg_m : Int32) (G0 : G h0 = 9) (Rm : hw_RM G rm) (gud_m : 0 ≤ ud_m.toInt ∧ ud_m.toInt ≤ 8) (gky_m : 0 ≤ ky_m.toInt ∧ ky_m.toInt ≤ 7) (glo_m : 0 ≤ lo_m.toInt ∧ lo_m.toInt ≤ 7) (gwk_m : 0 ≤ wk_m.toInt ∧ wk_m.toInt ≤ 3) (gln_m : 0 ≤ ln_m.toInt ∧ ln_m.toInt ≤ 200) (gsm_m : 0 ≤ sm_m.toInt ∧ sm_m.toInt ≤ 6) (gfi_m : 0 ≤ fi_m.toInt ∧ fi_m.toInt ≤ 200) (gbe_m : 0 ≤ be_m.toInt ∧ be_m.toInt ≤ 200) (grk_m : 0 ≤ rk_m.toInt ∧ rk_m.toInt ≤ 7) (grl_m : 0 ≤ rl_m.toInt ∧ rl_m.toInt ≤ 7) (grw_m : 0 ≤ rw_m.toInt ∧ rw_m.toInt ≤ 3) (gdg_m : 0 ≤ dg_m.toInt ∧ dg_m.toInt ≤ 1) (hb : be_m.toInt ≤ ln_m.toInt) : Met l yX12_readsLand wsX12_readsLand ({ frames := 3, cells := 0, slots := 0, locals := 65 } : Room) (hw_PC D G [.ref h0] sz (fun H => va_at D.1 vwCl (h0, .inr (11, hw_LM rm ud_m ky_m lo_m wk_m dk_m ln_m sm_m fi_m be_m rk_m rl_m rw_m cl_m dg_m)) H)) (hw_QM (fun v H => ∃ (fi_m2 : Int32) (be_m2 : Int32) (rk_m2 : Int32) (rl_m2 : Int32) (rw_m2 : Int32) (ky_m2 : Int32) (lo_m2 : Int32) (wk_m2 : Int32) (dk_m2 : Int32), v = some (.int 1) ∧ hw_HT D G H ∧ va_at D.1 vwCl (h0, .inr (11, hw_LM rm ud_m ky_m2 lo_m2 wk_m2 dk_m2 ln_m sm_m fi_m2 be_m2 rk_m2 rl_m2 rw_m2 cl_m dg_m)) H ∧ (0 ≤ fi_m2.toInt ∧ fi_m2.toInt ≤ 200) ∧ (0 ≤ be_m2.toInt ∧ be_m2.toInt ≤ 200) ∧ (0 ≤ rk_m2.toInt ∧ rk_m2.toInt ≤ 7) ∧ (0 ≤ rl_m2.toInt ∧ rl_m2.toInt ≤ 7) ∧ (0 ≤ rw_m2.toInt ∧ rw_m2.toInt ≤ 3) ∧ (0 ≤ ky_m2.toInt ∧ ky_m2.toInt ≤ 7) ∧ (0 ≤ lo_m2.toInt ∧ lo_m2.toInt ≤ 7) ∧ (0 ≤ wk_m2.toInt ∧ wk_m2.toInt ≤ 3) ∧ be_m2.toInt ≤ ln_m.toInt ∧ fi_m2.toInt ≤ ln_m.toInt ∧ (dg_m.toInt = 1 → ky_m2.toInt = rk_m2.toInt) ∧ (dg_m.toInt = 1 → lo_m2.toInt = rl_m2.toInt) ∧ (dg_m.toInt = 1 → wk_m2.toInt = rw_m2.toInt)) (hw_AW G [9] sz)) 0 0 (hw_AW G [9] sz) := by
  refine hw_met (cc := cX12_readsLand) (maxL := 1) (ret := (some .boolean)) (plainFor_of_name (by decide)) rfl (Nat.le_of_ble_eq_true rfl) ?_
  intro p e s m args below meth c QQ ls hsz hx hb hml hr hts hown hlocks hnm hH hK hST hF hQ hl
  subst hsz
  have hS : va_S (hw_AW G [9] s.heap.size) s.heap s.heap [] := va_S.rf
  have vm := hF
  have hl : lv_has ls 1 [(0, .ref h0)] := hl
  have u_11 : ∀ w ∈ u_ws RX12 TX12 45, w.before args s = true := fun w hw => hts w ((by decide +kernel : ∀ w ∈ u_ws RX12 TX12 45, w ∈ wsX12_readsLand) w hw)
  have fp_155_11 : hw_FP s args m 155 11 22 false .int := ⟨RX12, "WardWalkersModel", RX12, TX12, 45, tyX12, u_11, hown, rfl, by decide, (hts (.fieldLink RX12 155 "WardWalkersModel" "readKeys" "I") (by decide +kernel)), (fun _ h9 => h9), tyX12_ok, nmX12, rfl, (fun h => by cases h), by decide +kernel⟩
  have fp_166_11 : hw_FP s args m 166 11 23 false .int := ⟨RX12, "WardWalkersModel", RX12, TX12, 45, tyX12, u_11, hown, rfl, by decide, (hts (.fieldLink RX12 166 "WardWalkersModel" "readLocks" "I") (by decide +kernel)), (fun _ h9 => h9), tyX12_ok, nmX12, rfl, (fun h => by cases h), by decide +kernel⟩
  have fp_169_11 : hw_FP s args m 169 11 24 false .int := ⟨RX12, "WardWalkersModel", RX12, TX12, 45, tyX12, u_11, hown, rfl, by decide, (hts (.fieldLink RX12 169 "WardWalkersModel" "readWalkers" "I") (by decide +kernel)), (fun _ h9 => h9), tyX12_ok, nmX12, rfl, (fun h => by cases h), by decide +kernel⟩
  have fg_162_11 : hw_FG s args m 162 11 26 := ⟨RX12, "WardWalkersModel", RX12, TX12, 45, u_11, hown, rfl, by decide, (hts (.fieldLink RX12 162 "WardWalkersModel" "doing" "Z") (by decide +kernel)), (fun _ h9 => h9)⟩
  refine lv_aload_n hx hb dX12_readsLand_0 rfl (lv_at hl 0 rfl) ?_
  refine hw_cM0 (va_runV (As := []) (rest := []) ⟨hx, hb, hml, hown, hts⟩ (k_X12_nextToken l D G h0 _ rm ud_m ky_m lo_m wk_m dk_m ln_m sm_m fi_m be_m rk_m rl_m rw_m cl_m dg_m G0 Rm ⟨by first | decide | omega, by first | decide | omega⟩ ⟨by first | decide | omega, by first | decide | omega⟩ ⟨by first | decide | omega, by first | decide | omega⟩ ⟨by first | decide | omega, by first | decide | omega⟩ ⟨by first | decide | omega, by first | decide | omega⟩ ⟨by first | decide | omega, by first | decide | omega⟩ ⟨by first | decide | omega, by first | decide | omega⟩ ⟨by first | decide | omega, by first | decide | omega⟩ ⟨by first | decide | omega, by first | decide | omega⟩ ⟨by first | decide | omega, by first | decide | omega⟩ ⟨by first | decide | omega, by first | decide | omega⟩ ⟨by first | decide | omega, by first | decide | omega⟩) (cwV 0 hts gX12_readsLand_X12_nextToken rfl rfl rfl (by decide +kernel) ⟨Nat.le_of_ble_eq_true rfl, Nat.le_of_ble_eq_true rfl⟩) (hw_pV (hw_rc (q := (RX12, TX12, 45)) hK vm rfl) hH hK hST hS (by decide) (fun _ h => Or.inl h) vm) rfl rfl hl.1 rfl (lv_room (Nat.le_of_ble_eq_true rfl)) dX12_readsLand_1 ⟨Nat.le_of_ble_eq_true rfl, Nat.le_of_ble_eq_true rfl⟩) hS (hw_AWsub (by decide) (fun _ _ => rfl) hS.1) (fun v H locs hp hz hk hS => ?_)
  obtain ⟨x1, x2, rfl, hH, v3, g4, g5, q6, q7, q8⟩ := hp
  refine lv_aload_n hx hb dX12_readsLand_4 rfl (lv_at hl 0 rfl) ?_
  refine lv_iconst (v := 0) hx hb dX12_readsLand_5 (by decide) ?_
  refine hw_put (v := .int 0) (fs' := hw_LM rm ud_m ky_m lo_m wk_m dk_m ln_m sm_m x1 x2 0 rl_m rw_m cl_m dg_m) hx hb fp_155_11 hK hH v3 (Nat.le_of_ble_eq_true rfl) rfl rfl rfl (fun _ => by rw [G0]; exact ⟨rm, ud_m, ky_m, lo_m, wk_m, dk_m, ln_m, sm_m, x1, x2, 0, rl_m, rw_m, cl_m, dg_m, rfl, Rm, ⟨by first | decide | omega, by first | decide | omega⟩, ⟨by first | decide | omega, by first | decide | omega⟩, ⟨by first | decide | omega, by first | decide | omega⟩, ⟨by first | decide | omega, by first | decide | omega⟩, ⟨by first | decide | omega, by first | decide | omega⟩, ⟨by first | decide | omega, by first | decide | omega⟩, ⟨by first | decide | omega, by first | decide | omega⟩, ⟨by first | decide | omega, by first | decide | omega⟩, ⟨by first | decide | omega, by first | decide | omega⟩, ⟨by first | decide | omega, by first | decide | omega⟩, ⟨by first | decide | omega, by first | decide | omega⟩, ⟨by first | decide | omega, by first | decide | omega⟩⟩) hS (hw_AWi G0 (by decide)) dX12_readsLand_6 (fun H locs hH v3 oq hz hS => ?_)
  refine lv_aload_n hx hb dX12_readsLand_9 rfl (lv_at hl 0 rfl) ?_
  refine lv_iconst (v := 0) hx hb dX12_readsLand_10 (by decide) ?_
  refine hw_put (v := .int 0) (fs' := hw_LM rm ud_m ky_m lo_m wk_m dk_m ln_m sm_m x1 x2 0 0 rw_m cl_m dg_m) hx hb fp_166_11 hK hH v3 (Nat.le_of_ble_eq_true rfl) rfl rfl rfl (fun _ => by rw [G0]; exact ⟨rm, ud_m, ky_m, lo_m, wk_m, dk_m, ln_m, sm_m, x1, x2, 0, 0, rw_m, cl_m, dg_m, rfl, Rm, ⟨by first | decide | omega, by first | decide | omega⟩, ⟨by first | decide | omega, by first | decide | omega⟩, ⟨by first | decide | omega, by first | decide | omega⟩, ⟨by first | decide | omega, by first | decide | omega⟩, ⟨by first | decide | omega, by first | decide | omega⟩, ⟨by first | decide | omega, by first | decide | omega⟩, ⟨by first | decide | omega, by first | decide | omega⟩, ⟨by first | decide | omega, by first | decide | omega⟩, ⟨by first | decide | omega, by first | decide | omega⟩, ⟨by first | decide | omega, by first | decide | omega⟩, ⟨by first | decide | omega, by first | decide | omega⟩, ⟨by first | decide | omega, by first | decide | omega⟩⟩) hS (hw_AWi G0 (by decide)) dX12_readsLand_11 (fun H locs hH v3 oq hz hS => ?_)
  refine lv_aload_n hx hb dX12_readsLand_14 rfl (lv_at hl 0 rfl) ?_
  refine lv_iconst (v := 0) hx hb dX12_readsLand_15 (by decide) ?_
  refine hw_put (v := .int 0) (fs' := hw_LM rm ud_m ky_m lo_m wk_m dk_m ln_m sm_m x1 x2 0 0 0 cl_m dg_m) hx hb fp_169_11 hK hH v3 (Nat.le_of_ble_eq_true rfl) rfl rfl rfl (fun _ => by rw [G0]; exact ⟨rm, ud_m, ky_m, lo_m, wk_m, dk_m, ln_m, sm_m, x1, x2, 0, 0, 0, cl_m, dg_m, rfl, Rm, ⟨by first | decide | omega, by first | decide | omega⟩, ⟨by first | decide | omega, by first | decide | omega⟩, ⟨by first | decide | omega, by first | decide | omega⟩, ⟨by first | decide | omega, by first | decide | omega⟩, ⟨by first | decide | omega, by first | decide | omega⟩, ⟨by first | decide | omega, by first | decide | omega⟩, ⟨by first | decide | omega, by first | decide | omega⟩, ⟨by first | decide | omega, by first | decide | omega⟩, ⟨by first | decide | omega, by first | decide | omega⟩, ⟨by first | decide | omega, by first | decide | omega⟩, ⟨by first | decide | omega, by first | decide | omega⟩, ⟨by first | decide | omega, by first | decide | omega⟩⟩) hS (hw_AWi G0 (by decide)) dX12_readsLand_16 (fun H locs hH v3 oq hz hS => ?_)
  refine lv_aload_n hx hb dX12_readsLand_19 rfl (lv_at hl 0 rfl) ?_
  refine hw_get hx hb fg_162_11 hK v3 rfl dX12_readsLand_20 ?_
  refine lv_if_eq (tgt := 30) hx hb dX12_readsLand_23 (by decide) (fun c9 => ?_) (fun c9 => ?_)
  · have b10 : dg_m.toInt = 0 := hw_ieq c9
    refine lv_iconst (v := 1) hx hb dX12_readsLand_30 (by decide) ?_
    exact hw_iretM (v := 1) hx hb hr hlocks hQ hS rfl (⟨x1, x2, 0, 0, 0, ky_m, lo_m, wk_m, dk_m, rfl, hH, v3, ⟨by first | decide | omega, by first | decide | omega⟩, ⟨by first | decide | omega, by first | decide | omega⟩, ⟨by first | decide | omega, by first | decide | omega⟩, ⟨by first | decide | omega, by first | decide | omega⟩, ⟨by first | decide | omega, by first | decide | omega⟩, ⟨by first | decide | omega, by first | decide | omega⟩, ⟨by first | decide | omega, by first | decide | omega⟩, ⟨by first | decide | omega, by first | decide | omega⟩, (by first | rfl | trivial | assumption | omega | (intros; first | rfl | assumption | omega | (exfalso; omega))), (by first | rfl | trivial | assumption | omega | (intros; first | rfl | assumption | omega | (exfalso; omega))), (by first | rfl | trivial | assumption | omega | (intros; first | rfl | assumption | omega | (exfalso; omega))), (by first | rfl | trivial | assumption | omega | (intros; first | rfl | assumption | omega | (exfalso; omega))), (by first | rfl | trivial | assumption | omega | (intros; first | rfl | assumption | omega | (exfalso; omega)))⟩) dX12_readsLand_31
  · have b11 : dg_m.toInt ≠ 0 := hw_ine c9
    refine lv_aload_n hx hb dX12_readsLand_26 rfl (lv_at hl 0 rfl) ?_
    refine hw_cM0 (va_runV (As := []) (rest := []) ⟨hx, hb, hml, hown, hts⟩ (k_X12_empty l D G h0 _ rm ud_m ky_m lo_m wk_m dk_m ln_m sm_m x1 x2 0 0 0 cl_m dg_m G0 Rm ⟨by first | decide | omega, by first | decide | omega⟩ ⟨by first | decide | omega, by first | decide | omega⟩ ⟨by first | decide | omega, by first | decide | omega⟩ ⟨by first | decide | omega, by first | decide | omega⟩ ⟨by first | decide | omega, by first | decide | omega⟩ ⟨by first | decide | omega, by first | decide | omega⟩ ⟨by first | decide | omega, by first | decide | omega⟩ ⟨by first | decide | omega, by first | decide | omega⟩ ⟨by first | decide | omega, by first | decide | omega⟩ ⟨by first | decide | omega, by first | decide | omega⟩ ⟨by first | decide | omega, by first | decide | omega⟩ ⟨by first | decide | omega, by first | decide | omega⟩) (cwV 0 hts gX12_readsLand_X12_empty rfl rfl rfl (by decide +kernel) ⟨Nat.le_of_ble_eq_true rfl, Nat.le_of_ble_eq_true rfl⟩) (hw_pV (hw_rc (q := (RX12, TX12, 45)) hK v3 rfl) hH hK hST hS (by decide) (fun _ h => Or.inl h) v3) rfl rfl hl.1 rfl (lv_room (Nat.le_of_ble_eq_true rfl)) dX12_readsLand_27 ⟨Nat.le_of_ble_eq_true rfl, Nat.le_of_ble_eq_true rfl⟩) hS (hw_AWsub (by decide) (fun _ _ => rfl) hS.1) (fun v H locs hp hz hk hS => ?_)
    have l12 : (0 : Int32).toInt = 0 := rfl
    obtain ⟨x13, x14, x15, x16, rfl, hH, v17, g18, g19, g20, q21, q22, q23⟩ := hp
    refine lv_iconst (v := 1) hx hb dX12_readsLand_30 (by decide) ?_
    exact hw_iretM (v := 1) hx hb hr hlocks hQ hS rfl (⟨x1, x2, 0, 0, 0, x13, x14, x15, x16, rfl, hH, v17, ⟨by first | decide | omega, by first | decide | omega⟩, ⟨by first | decide | omega, by first | decide | omega⟩, ⟨by first | decide | omega, by first | decide | omega⟩, ⟨by first | decide | omega, by first | decide | omega⟩, ⟨by first | decide | omega, by first | decide | omega⟩, ⟨by first | decide | omega, by first | decide | omega⟩, ⟨by first | decide | omega, by first | decide | omega⟩, ⟨by first | decide | omega, by first | decide | omega⟩, (by first | rfl | trivial | assumption | omega | (intros; first | rfl | assumption | omega | (exfalso; omega))), (by first | rfl | trivial | assumption | omega | (intros; first | rfl | assumption | omega | (exfalso; omega))), (by first | rfl | trivial | assumption | omega | (intros; first | rfl | assumption | omega | (exfalso; omega))), (by first | rfl | trivial | assumption | omega | (intros; first | rfl | assumption | omega | (exfalso; omega))), (by first | rfl | trivial | assumption | omega | (intros; first | rfl | assumption | omega | (exfalso; omega)))⟩) dX12_readsLand_31

set_option maxHeartbeats 4000000 in
set_option maxRecDepth 100000 in
theorem k_X12_readsClause (l : Launch) (D : hw_D) (G : Nat → Nat) (h0 : Nat) (sz : Nat) (rm : Nat → Nat) (ud_m ky_m lo_m wk_m dk_m ln_m sm_m fi_m be_m rk_m rl_m rw_m cl_m dg_m : Int32) (G0 : G h0 = 9) (Rm : hw_RM G rm) (gud_m : 0 ≤ ud_m.toInt ∧ ud_m.toInt ≤ 8) (gky_m : 0 ≤ ky_m.toInt ∧ ky_m.toInt ≤ 7) (glo_m : 0 ≤ lo_m.toInt ∧ lo_m.toInt ≤ 7) (gwk_m : 0 ≤ wk_m.toInt ∧ wk_m.toInt ≤ 3) (gln_m : 0 ≤ ln_m.toInt ∧ ln_m.toInt ≤ 200) (gsm_m : 0 ≤ sm_m.toInt ∧ sm_m.toInt ≤ 6) (gfi_m : 0 ≤ fi_m.toInt ∧ fi_m.toInt ≤ 200) (gbe_m : 0 ≤ be_m.toInt ∧ be_m.toInt ≤ 200) (grk_m : 0 ≤ rk_m.toInt ∧ rk_m.toInt ≤ 7) (grl_m : 0 ≤ rl_m.toInt ∧ rl_m.toInt ≤ 7) (grw_m : 0 ≤ rw_m.toInt ∧ rw_m.toInt ≤ 3) (gdg_m : 0 ≤ dg_m.toInt ∧ dg_m.toInt ≤ 1) (hf : fi_m.toInt ≤ ln_m.toInt) (hb : be_m.toInt ≤ ln_m.toInt) (hd1 : dg_m.toInt = 1 → ky_m.toInt = rk_m.toInt) (hd2 : dg_m.toInt = 1 → lo_m.toInt = rl_m.toInt) (hd3 : dg_m.toInt = 1 → wk_m.toInt = rw_m.toInt) : Met l yX12_readsClause wsX12_readsClause ({ frames := 5, cells := 0, slots := 0, locals := 111 } : Room) (hw_PC D G [.ref h0] sz (fun H => va_at D.1 vwCl (h0, .inr (11, hw_LM rm ud_m ky_m lo_m wk_m dk_m ln_m sm_m fi_m be_m rk_m rl_m rw_m cl_m dg_m)) H)) (hw_QM (fun v H => (∃ (fi_m2 : Int32) (be_m2 : Int32) (rk_m2 : Int32) (rl_m2 : Int32) (rw_m2 : Int32) (ky_m2 : Int32) (lo_m2 : Int32) (wk_m2 : Int32) (dk_m2 : Int32), v = some (.int 0) ∧ hw_HT D G H ∧ va_at D.1 vwCl (h0, .inr (11, hw_LM rm ud_m ky_m2 lo_m2 wk_m2 dk_m2 ln_m sm_m fi_m2 be_m2 rk_m2 rl_m2 rw_m2 cl_m dg_m)) H ∧ (0 ≤ fi_m2.toInt ∧ fi_m2.toInt ≤ 200) ∧ (0 ≤ be_m2.toInt ∧ be_m2.toInt ≤ 200) ∧ (0 ≤ rk_m2.toInt ∧ rk_m2.toInt ≤ 7) ∧ (0 ≤ rl_m2.toInt ∧ rl_m2.toInt ≤ 7) ∧ (0 ≤ rw_m2.toInt ∧ rw_m2.toInt ≤ 3) ∧ (0 ≤ ky_m2.toInt ∧ ky_m2.toInt ≤ 7) ∧ (0 ≤ lo_m2.toInt ∧ lo_m2.toInt ≤ 7) ∧ (0 ≤ wk_m2.toInt ∧ wk_m2.toInt ≤ 3) ∧ be_m2.toInt ≤ ln_m.toInt ∧ fi_m2.toInt ≤ ln_m.toInt ∧ (dg_m.toInt = 1 → ky_m2.toInt = rk_m2.toInt) ∧ (dg_m.toInt = 1 → lo_m2.toInt = rl_m2.toInt) ∧ (dg_m.toInt = 1 → wk_m2.toInt = rw_m2.toInt)) ∨ (∃ (fi_m2 : Int32) (be_m2 : Int32) (rk_m2 : Int32) (rl_m2 : Int32) (rw_m2 : Int32) (ky_m2 : Int32) (lo_m2 : Int32) (wk_m2 : Int32) (dk_m2 : Int32), v = some (.int 1) ∧ hw_HT D G H ∧ va_at D.1 vwCl (h0, .inr (11, hw_LM rm ud_m ky_m2 lo_m2 wk_m2 dk_m2 ln_m sm_m fi_m2 be_m2 rk_m2 rl_m2 rw_m2 cl_m dg_m)) H ∧ (0 ≤ fi_m2.toInt ∧ fi_m2.toInt ≤ 200) ∧ (0 ≤ be_m2.toInt ∧ be_m2.toInt ≤ 200) ∧ (0 ≤ rk_m2.toInt ∧ rk_m2.toInt ≤ 7) ∧ (0 ≤ rl_m2.toInt ∧ rl_m2.toInt ≤ 7) ∧ (0 ≤ rw_m2.toInt ∧ rw_m2.toInt ≤ 3) ∧ (0 ≤ ky_m2.toInt ∧ ky_m2.toInt ≤ 7) ∧ (0 ≤ lo_m2.toInt ∧ lo_m2.toInt ≤ 7) ∧ (0 ≤ wk_m2.toInt ∧ wk_m2.toInt ≤ 3) ∧ be_m2.toInt ≤ ln_m.toInt ∧ fi_m2.toInt ≤ ln_m.toInt ∧ (dg_m.toInt = 1 → ky_m2.toInt = rk_m2.toInt) ∧ (dg_m.toInt = 1 → lo_m2.toInt = rl_m2.toInt) ∧ (dg_m.toInt = 1 → wk_m2.toInt = rw_m2.toInt) ∧ 4 ≤ be_m.toInt - fi_m.toInt)) (hw_AW G [9, 44, 45, 46, 48, 49, 50, 51, 53, 67] sz)) 0 0 (hw_AW G [9, 44, 45, 46, 48, 49, 50, 51, 53, 67] sz) := by
  refine hw_met (cc := cX12_readsClause) (maxL := 1) (ret := (some .boolean)) (plainFor_of_name (by decide)) rfl (Nat.le_of_ble_eq_true rfl) ?_
  intro p e s m args below meth c QQ ls hsz hx hb hml hr hts hown hlocks hnm hH hK hST hF hQ hl
  subst hsz
  have hS : va_S (hw_AW G [9, 44, 45, 46, 48, 49, 50, 51, 53, 67] s.heap.size) s.heap s.heap [] := va_S.rf
  have vm := hF
  have hl : lv_has ls 1 [(0, .ref h0)] := hl
  have u_11 : ∀ w ∈ u_ws RX12 TX12 45, w.before args s = true := fun w hw => hts w ((by decide +kernel : ∀ w ∈ u_ws RX12 TX12 45, w ∈ wsX12_readsClause) w hw)
  have fg_69_11 : hw_FG s args m 69 11 32 := ⟨RX12, "WardWalkersModel", RX12, TX12, 45, u_11, hown, rfl, by decide, (hts (.fieldLink RX12 69 "WardWalkersModel" "landWord" "[I") (by decide +kernel)), (fun _ h9 => h9)⟩
  have fg_72_11 : hw_FG s args m 72 11 33 := ⟨RX12, "WardWalkersModel", RX12, TX12, 45, u_11, hown, rfl, by decide, (hts (.fieldLink RX12 72 "WardWalkersModel" "lockWord" "[I") (by decide +kernel)), (fun _ h9 => h9)⟩
  have fg_75_11 : hw_FG s args m 75 11 34 := ⟨RX12, "WardWalkersModel", RX12, TX12, 45, u_11, hown, rfl, by decide, (hts (.fieldLink RX12 75 "WardWalkersModel" "walkerWord" "[I") (by decide +kernel)), (fun _ h9 => h9)⟩
  have fg_78_11 : hw_FG s args m 78 11 35 := ⟨RX12, "WardWalkersModel", RX12, TX12, 45, u_11, hown, rfl, by decide, (hts (.fieldLink RX12 78 "WardWalkersModel" "darkWord" "[I") (by decide +kernel)), (fun _ h9 => h9)⟩
  refine lv_aload_n hx hb dX12_readsClause_0 rfl (lv_at hl 0 rfl) ?_
  refine hw_cR (va_runV (As := []) (rest := []) ⟨hx, hb, hml, hown, hts⟩ (k_X12_kindHere l D G h0 _ rm ud_m ky_m lo_m wk_m dk_m ln_m sm_m fi_m be_m rk_m rl_m rw_m cl_m dg_m G0 Rm ⟨by first | decide | omega, by first | decide | omega⟩ ⟨by first | decide | omega, by first | decide | omega⟩ ⟨by first | decide | omega, by first | decide | omega⟩ ⟨by first | decide | omega, by first | decide | omega⟩ ⟨by first | decide | omega, by first | decide | omega⟩ ⟨by first | decide | omega, by first | decide | omega⟩ ⟨by first | decide | omega, by first | decide | omega⟩ ⟨by first | decide | omega, by first | decide | omega⟩ ⟨by first | decide | omega, by first | decide | omega⟩ ⟨by first | decide | omega, by first | decide | omega⟩ ⟨by first | decide | omega, by first | decide | omega⟩ ⟨by first | decide | omega, by first | decide | omega⟩) (cwV 0 hts gX12_readsClause_X12_kindHere rfl rfl rfl (by decide +kernel) ⟨Nat.le_of_ble_eq_true rfl, Nat.le_of_ble_eq_true rfl⟩) (hw_pV (hw_rc (q := (RX12, TX12, 45)) hK vm rfl) hH hK hST hS (by decide) (fun _ h => Or.inl h) vm) rfl rfl hl.1 rfl (lv_room (Nat.le_of_ble_eq_true rfl)) dX12_readsClause_1 ⟨Nat.le_of_ble_eq_true rfl, Nat.le_of_ble_eq_true rfl⟩) (fun v hp => ?_)
  rcases hp with rfl | ⟨x1, rfl, g2, q3⟩
  · refine lv_iconst (v := (-1)) hx hb dX12_readsClause_4 (by decide) ?_
    refine lv_icmp_eq (tgt := 17) hx hb dX12_readsClause_5 (by decide) (fun c4 => ?_) (fun c4 => ?_)
    · refine lv_aload_n hx hb dX12_readsClause_17 rfl (lv_at hl 0 rfl) ?_
      refine lv_aload_n hx hb dX12_readsClause_18 rfl (lv_at hl 0 rfl) ?_
      refine hw_get hx hb fg_69_11 hK vm rfl dX12_readsClause_19 ?_
      refine hw_cR (va_runV (As := [.ref (rm 32)]) (rest := []) ⟨hx, hb, hml, hown, hts⟩ (k_X12_isWord72 l D G h0 (rm 32) _ rm ud_m ky_m lo_m wk_m dk_m ln_m sm_m fi_m be_m rk_m rl_m rw_m cl_m dg_m G0 (hw_RM_32 Rm) Rm ⟨by first | decide | omega, by first | decide | omega⟩ ⟨by first | decide | omega, by first | decide | omega⟩ ⟨by first | decide | omega, by first | decide | omega⟩ ⟨by first | decide | omega, by first | decide | omega⟩ ⟨by first | decide | omega, by first | decide | omega⟩ ⟨by first | decide | omega, by first | decide | omega⟩ ⟨by first | decide | omega, by first | decide | omega⟩ ⟨by first | decide | omega, by first | decide | omega⟩ ⟨by first | decide | omega, by first | decide | omega⟩ ⟨by first | decide | omega, by first | decide | omega⟩ ⟨by first | decide | omega, by first | decide | omega⟩ ⟨by first | decide | omega, by first | decide | omega⟩) (cwV 1 hts gX12_readsClause_X12_isWord rfl rfl rfl (by decide +kernel) ⟨Nat.le_of_ble_eq_true rfl, Nat.le_of_ble_eq_true rfl⟩) (hw_pV (hw_rc (q := (RX12, TX12, 45)) hK vm rfl) hH hK hST hS (by decide) (fun _ h => Or.inl h) vm) rfl rfl hl.1 rfl (lv_room (Nat.le_of_ble_eq_true rfl)) dX12_readsClause_22 ⟨Nat.le_of_ble_eq_true rfl, Nat.le_of_ble_eq_true rfl⟩) (fun v hp => ?_)
      rcases hp with rfl | ⟨rfl, q5⟩
      · refine lv_if_eq (tgt := 35) hx hb dX12_readsClause_25 (by decide) (fun c6 => ?_) (fun c6 => ?_)
        · refine lv_aload_n hx hb dX12_readsClause_35 rfl (lv_at hl 0 rfl) ?_
          refine lv_aload_n hx hb dX12_readsClause_36 rfl (lv_at hl 0 rfl) ?_
          refine hw_get hx hb fg_72_11 hK vm rfl dX12_readsClause_37 ?_
          refine hw_cR (va_runV (As := [.ref (rm 33)]) (rest := []) ⟨hx, hb, hml, hown, hts⟩ (k_X12_isWord73 l D G h0 (rm 33) _ rm ud_m ky_m lo_m wk_m dk_m ln_m sm_m fi_m be_m rk_m rl_m rw_m cl_m dg_m G0 (hw_RM_33 Rm) Rm ⟨by first | decide | omega, by first | decide | omega⟩ ⟨by first | decide | omega, by first | decide | omega⟩ ⟨by first | decide | omega, by first | decide | omega⟩ ⟨by first | decide | omega, by first | decide | omega⟩ ⟨by first | decide | omega, by first | decide | omega⟩ ⟨by first | decide | omega, by first | decide | omega⟩ ⟨by first | decide | omega, by first | decide | omega⟩ ⟨by first | decide | omega, by first | decide | omega⟩ ⟨by first | decide | omega, by first | decide | omega⟩ ⟨by first | decide | omega, by first | decide | omega⟩ ⟨by first | decide | omega, by first | decide | omega⟩ ⟨by first | decide | omega, by first | decide | omega⟩) (cwV 1 hts gX12_readsClause_X12_isWord rfl rfl rfl (by decide +kernel) ⟨Nat.le_of_ble_eq_true rfl, Nat.le_of_ble_eq_true rfl⟩) (hw_pV (hw_rc (q := (RX12, TX12, 45)) hK vm rfl) hH hK hST hS (by decide) (fun _ h => Or.inl h) vm) rfl rfl hl.1 rfl (lv_room (Nat.le_of_ble_eq_true rfl)) dX12_readsClause_40 ⟨Nat.le_of_ble_eq_true rfl, Nat.le_of_ble_eq_true rfl⟩) (fun v hp => ?_)
          rcases hp with rfl | ⟨rfl, q7⟩
          · refine lv_if_eq (tgt := 53) hx hb dX12_readsClause_43 (by decide) (fun c8 => ?_) (fun c8 => ?_)
            · refine lv_aload_n hx hb dX12_readsClause_53 rfl (lv_at hl 0 rfl) ?_
              refine lv_aload_n hx hb dX12_readsClause_54 rfl (lv_at hl 0 rfl) ?_
              refine hw_get hx hb fg_75_11 hK vm rfl dX12_readsClause_55 ?_
              refine hw_cR (va_runV (As := [.ref (rm 34)]) (rest := []) ⟨hx, hb, hml, hown, hts⟩ (k_X12_isWord74 l D G h0 (rm 34) _ rm ud_m ky_m lo_m wk_m dk_m ln_m sm_m fi_m be_m rk_m rl_m rw_m cl_m dg_m G0 (hw_RM_34 Rm) Rm ⟨by first | decide | omega, by first | decide | omega⟩ ⟨by first | decide | omega, by first | decide | omega⟩ ⟨by first | decide | omega, by first | decide | omega⟩ ⟨by first | decide | omega, by first | decide | omega⟩ ⟨by first | decide | omega, by first | decide | omega⟩ ⟨by first | decide | omega, by first | decide | omega⟩ ⟨by first | decide | omega, by first | decide | omega⟩ ⟨by first | decide | omega, by first | decide | omega⟩ ⟨by first | decide | omega, by first | decide | omega⟩ ⟨by first | decide | omega, by first | decide | omega⟩ ⟨by first | decide | omega, by first | decide | omega⟩ ⟨by first | decide | omega, by first | decide | omega⟩) (cwV 1 hts gX12_readsClause_X12_isWord rfl rfl rfl (by decide +kernel) ⟨Nat.le_of_ble_eq_true rfl, Nat.le_of_ble_eq_true rfl⟩) (hw_pV (hw_rc (q := (RX12, TX12, 45)) hK vm rfl) hH hK hST hS (by decide) (fun _ h => Or.inl h) vm) rfl rfl hl.1 rfl (lv_room (Nat.le_of_ble_eq_true rfl)) dX12_readsClause_58 ⟨Nat.le_of_ble_eq_true rfl, Nat.le_of_ble_eq_true rfl⟩) (fun v hp => ?_)
              rcases hp with rfl | ⟨rfl, q9⟩
              · refine lv_if_eq (tgt := 71) hx hb dX12_readsClause_61 (by decide) (fun c10 => ?_) (fun c10 => ?_)
                · refine lv_aload_n hx hb dX12_readsClause_71 rfl (lv_at hl 0 rfl) ?_
                  refine lv_aload_n hx hb dX12_readsClause_72 rfl (lv_at hl 0 rfl) ?_
                  refine hw_get hx hb fg_78_11 hK vm rfl dX12_readsClause_73 ?_
                  refine hw_cR (va_runV (As := [.ref (rm 35)]) (rest := []) ⟨hx, hb, hml, hown, hts⟩ (k_X12_isWord75 l D G h0 (rm 35) _ rm ud_m ky_m lo_m wk_m dk_m ln_m sm_m fi_m be_m rk_m rl_m rw_m cl_m dg_m G0 (hw_RM_35 Rm) Rm ⟨by first | decide | omega, by first | decide | omega⟩ ⟨by first | decide | omega, by first | decide | omega⟩ ⟨by first | decide | omega, by first | decide | omega⟩ ⟨by first | decide | omega, by first | decide | omega⟩ ⟨by first | decide | omega, by first | decide | omega⟩ ⟨by first | decide | omega, by first | decide | omega⟩ ⟨by first | decide | omega, by first | decide | omega⟩ ⟨by first | decide | omega, by first | decide | omega⟩ ⟨by first | decide | omega, by first | decide | omega⟩ ⟨by first | decide | omega, by first | decide | omega⟩ ⟨by first | decide | omega, by first | decide | omega⟩ ⟨by first | decide | omega, by first | decide | omega⟩) (cwV 1 hts gX12_readsClause_X12_isWord rfl rfl rfl (by decide +kernel) ⟨Nat.le_of_ble_eq_true rfl, Nat.le_of_ble_eq_true rfl⟩) (hw_pV (hw_rc (q := (RX12, TX12, 45)) hK vm rfl) hH hK hST hS (by decide) (fun _ h => Or.inl h) vm) rfl rfl hl.1 rfl (lv_room (Nat.le_of_ble_eq_true rfl)) dX12_readsClause_76 ⟨Nat.le_of_ble_eq_true rfl, Nat.le_of_ble_eq_true rfl⟩) (fun v hp => ?_)
                  rcases hp with rfl | ⟨rfl, q11⟩
                  · refine lv_if_eq (tgt := 93) hx hb dX12_readsClause_79 (by decide) (fun c12 => ?_) (fun c12 => ?_)
                    · refine lv_iconst (v := 0) hx hb dX12_readsClause_93 (by decide) ?_
                      exact hw_iretM (v := 0) hx hb hr hlocks hQ hS rfl (Or.inl ⟨fi_m, be_m, rk_m, rl_m, rw_m, ky_m, lo_m, wk_m, dk_m, rfl, hH, vm, ⟨by first | decide | omega, by first | decide | omega⟩, ⟨by first | decide | omega, by first | decide | omega⟩, ⟨by first | decide | omega, by first | decide | omega⟩, ⟨by first | decide | omega, by first | decide | omega⟩, ⟨by first | decide | omega, by first | decide | omega⟩, ⟨by first | decide | omega, by first | decide | omega⟩, ⟨by first | decide | omega, by first | decide | omega⟩, ⟨by first | decide | omega, by first | decide | omega⟩, (by first | rfl | trivial | assumption | omega | (intros; first | rfl | assumption | omega | (exfalso; omega))), (by first | rfl | trivial | assumption | omega | (intros; first | rfl | assumption | omega | (exfalso; omega))), (by first | rfl | trivial | assumption | omega | (intros; first | rfl | assumption | omega | (exfalso; omega))), (by first | rfl | trivial | assumption | omega | (intros; first | rfl | assumption | omega | (exfalso; omega))), (by first | rfl | trivial | assumption | omega | (intros; first | rfl | assumption | omega | (exfalso; omega)))⟩) dX12_readsClause_94
                    · exact absurd c12 (by decide)
                  · refine lv_if_eq (tgt := 93) hx hb dX12_readsClause_79 (by decide) (fun c13 => ?_) (fun c13 => ?_)
                    · exact absurd c13 (by decide)
                    · refine lv_aload_n hx hb dX12_readsClause_82 rfl (lv_at hl 0 rfl) ?_
                      refine hw_cM0 (va_runV (As := []) (rest := []) ⟨hx, hb, hml, hown, hts⟩ (k_X12_readsDark l D G h0 _ rm ud_m ky_m lo_m wk_m dk_m ln_m sm_m fi_m be_m rk_m rl_m rw_m cl_m dg_m G0 Rm ⟨by first | decide | omega, by first | decide | omega⟩ ⟨by first | decide | omega, by first | decide | omega⟩ ⟨by first | decide | omega, by first | decide | omega⟩ ⟨by first | decide | omega, by first | decide | omega⟩ ⟨by first | decide | omega, by first | decide | omega⟩ ⟨by first | decide | omega, by first | decide | omega⟩ ⟨by first | decide | omega, by first | decide | omega⟩ ⟨by first | decide | omega, by first | decide | omega⟩ ⟨by first | decide | omega, by first | decide | omega⟩ ⟨by first | decide | omega, by first | decide | omega⟩ ⟨by first | decide | omega, by first | decide | omega⟩ ⟨by first | decide | omega, by first | decide | omega⟩ (by first | assumption | decide | omega)) (cwV 0 hts gX12_readsClause_X12_readsDark rfl rfl rfl (by decide +kernel) ⟨Nat.le_of_ble_eq_true rfl, Nat.le_of_ble_eq_true rfl⟩) (hw_pV (hw_rc (q := (RX12, TX12, 45)) hK vm rfl) hH hK hST hS (by decide) (fun _ h => Or.inl h) vm) rfl rfl hl.1 rfl (lv_room (Nat.le_of_ble_eq_true rfl)) dX12_readsClause_83 ⟨Nat.le_of_ble_eq_true rfl, Nat.le_of_ble_eq_true rfl⟩) hS (hw_AWsub (by decide) (fun _ _ => rfl) hS.1) (fun v H locs hp hz hk hS => ?_)
                      rcases hp with ⟨x14, x15, x16, rfl, hH, v17, g18, g19, q20, q21⟩ | ⟨x22, x23, x24, rfl, hH, v25, g26, g27, q28, q29⟩
                      · refine lv_if_eq (tgt := 93) hx hb dX12_readsClause_86 (by decide) (fun c30 => ?_) (fun c30 => ?_)
                        · refine lv_iconst (v := 0) hx hb dX12_readsClause_93 (by decide) ?_
                          exact hw_iretM (v := 0) hx hb hr hlocks hQ hS rfl (Or.inl ⟨x14, x15, rk_m, rl_m, rw_m, ky_m, lo_m, wk_m, x16, rfl, hH, v17, ⟨by first | decide | omega, by first | decide | omega⟩, ⟨by first | decide | omega, by first | decide | omega⟩, ⟨by first | decide | omega, by first | decide | omega⟩, ⟨by first | decide | omega, by first | decide | omega⟩, ⟨by first | decide | omega, by first | decide | omega⟩, ⟨by first | decide | omega, by first | decide | omega⟩, ⟨by first | decide | omega, by first | decide | omega⟩, ⟨by first | decide | omega, by first | decide | omega⟩, (by first | rfl | trivial | assumption | omega | (intros; first | rfl | assumption | omega | (exfalso; omega))), (by first | rfl | trivial | assumption | omega | (intros; first | rfl | assumption | omega | (exfalso; omega))), (by first | rfl | trivial | assumption | omega | (intros; first | rfl | assumption | omega | (exfalso; omega))), (by first | rfl | trivial | assumption | omega | (intros; first | rfl | assumption | omega | (exfalso; omega))), (by first | rfl | trivial | assumption | omega | (intros; first | rfl | assumption | omega | (exfalso; omega)))⟩) dX12_readsClause_94
                        · exact absurd c30 (by decide)
                      · refine lv_if_eq (tgt := 93) hx hb dX12_readsClause_86 (by decide) (fun c31 => ?_) (fun c31 => ?_)
                        · exact absurd c31 (by decide)
                        · refine lv_iconst (v := 1) hx hb dX12_readsClause_89 (by decide) ?_
                          refine lv_goto (tgt := 94) hx hb dX12_readsClause_90 (by decide) ?_
                          exact hw_iretM (v := 1) hx hb hr hlocks hQ hS rfl (Or.inr (⟨x22, x23, rk_m, rl_m, rw_m, ky_m, lo_m, wk_m, x24, rfl, hH, v25, ⟨by first | decide | omega, by first | decide | omega⟩, ⟨by first | decide | omega, by first | decide | omega⟩, ⟨by first | decide | omega, by first | decide | omega⟩, ⟨by first | decide | omega, by first | decide | omega⟩, ⟨by first | decide | omega, by first | decide | omega⟩, ⟨by first | decide | omega, by first | decide | omega⟩, ⟨by first | decide | omega, by first | decide | omega⟩, ⟨by first | decide | omega, by first | decide | omega⟩, (by first | rfl | trivial | assumption | omega | (intros; first | rfl | assumption | omega | (exfalso; omega))), (by first | rfl | trivial | assumption | omega | (intros; first | rfl | assumption | omega | (exfalso; omega))), (by first | rfl | trivial | assumption | omega | (intros; first | rfl | assumption | omega | (exfalso; omega))), (by first | rfl | trivial | assumption | omega | (intros; first | rfl | assumption | omega | (exfalso; omega))), (by first | rfl | trivial | assumption | omega | (intros; first | rfl | assumption | omega | (exfalso; omega))), (by first | rfl | trivial | assumption | omega | (intros; first | rfl | assumption | omega | (exfalso; omega)))⟩)) dX12_readsClause_94
                · exact absurd c10 (by decide)
              · refine lv_if_eq (tgt := 71) hx hb dX12_readsClause_61 (by decide) (fun c32 => ?_) (fun c32 => ?_)
                · exact absurd c32 (by decide)
                · refine lv_aload_n hx hb dX12_readsClause_64 rfl (lv_at hl 0 rfl) ?_
                  refine hw_cM0 (va_runV (As := []) (rest := []) ⟨hx, hb, hml, hown, hts⟩ (k_X12_readsWalker l D G h0 _ rm ud_m ky_m lo_m wk_m dk_m ln_m sm_m fi_m be_m rk_m rl_m rw_m cl_m dg_m G0 Rm ⟨by first | decide | omega, by first | decide | omega⟩ ⟨by first | decide | omega, by first | decide | omega⟩ ⟨by first | decide | omega, by first | decide | omega⟩ ⟨by first | decide | omega, by first | decide | omega⟩ ⟨by first | decide | omega, by first | decide | omega⟩ ⟨by first | decide | omega, by first | decide | omega⟩ ⟨by first | decide | omega, by first | decide | omega⟩ ⟨by first | decide | omega, by first | decide | omega⟩ ⟨by first | decide | omega, by first | decide | omega⟩ ⟨by first | decide | omega, by first | decide | omega⟩ ⟨by first | decide | omega, by first | decide | omega⟩ ⟨by first | decide | omega, by first | decide | omega⟩ (by first | assumption | decide | omega) (by first | assumption | decide | omega) (by first | assumption | decide | omega)) (cwV 0 hts gX12_readsClause_X12_readsWalker rfl rfl rfl (by decide +kernel) ⟨Nat.le_of_ble_eq_true rfl, Nat.le_of_ble_eq_true rfl⟩) (hw_pV (hw_rc (q := (RX12, TX12, 45)) hK vm rfl) hH hK hST hS (by decide) (fun _ h => Or.inl h) vm) rfl rfl hl.1 rfl (lv_room (Nat.le_of_ble_eq_true rfl)) dX12_readsClause_65 ⟨Nat.le_of_ble_eq_true rfl, Nat.le_of_ble_eq_true rfl⟩) hS (hw_AWsub (by decide) (fun _ _ => rfl) hS.1) (fun v H locs hp hz hk hS => ?_)
                  rcases hp with ⟨x33, x34, x35, x36, rfl, hH, v37, g38, g39, g40, g41, q42, q43, q44⟩ | ⟨x45, x46, x47, x48, rfl, hH, v49, g50, g51, g52, g53, q54, q55, q56⟩
                  · refine lv_goto (tgt := 94) hx hb dX12_readsClause_68 (by decide) ?_
                    exact hw_iretM (v := 0) hx hb hr hlocks hQ hS rfl (Or.inl ⟨x33, x34, rk_m, rl_m, x35, ky_m, lo_m, x36, dk_m, rfl, hH, v37, ⟨by first | decide | omega, by first | decide | omega⟩, ⟨by first | decide | omega, by first | decide | omega⟩, ⟨by first | decide | omega, by first | decide | omega⟩, ⟨by first | decide | omega, by first | decide | omega⟩, ⟨by first | decide | omega, by first | decide | omega⟩, ⟨by first | decide | omega, by first | decide | omega⟩, ⟨by first | decide | omega, by first | decide | omega⟩, ⟨by first | decide | omega, by first | decide | omega⟩, (by first | rfl | trivial | assumption | omega | (intros; first | rfl | assumption | omega | (exfalso; omega))), (by first | rfl | trivial | assumption | omega | (intros; first | rfl | assumption | omega | (exfalso; omega))), (by first | rfl | trivial | assumption | omega | (intros; first | rfl | assumption | omega | (exfalso; omega))), (by first | rfl | trivial | assumption | omega | (intros; first | rfl | assumption | omega | (exfalso; omega))), (by first | rfl | trivial | assumption | omega | (intros; first | rfl | assumption | omega | (exfalso; omega)))⟩) dX12_readsClause_94
                  · refine lv_goto (tgt := 94) hx hb dX12_readsClause_68 (by decide) ?_
                    exact hw_iretM (v := 1) hx hb hr hlocks hQ hS rfl (Or.inr (⟨x45, x46, rk_m, rl_m, x47, ky_m, lo_m, x48, dk_m, rfl, hH, v49, ⟨by first | decide | omega, by first | decide | omega⟩, ⟨by first | decide | omega, by first | decide | omega⟩, ⟨by first | decide | omega, by first | decide | omega⟩, ⟨by first | decide | omega, by first | decide | omega⟩, ⟨by first | decide | omega, by first | decide | omega⟩, ⟨by first | decide | omega, by first | decide | omega⟩, ⟨by first | decide | omega, by first | decide | omega⟩, ⟨by first | decide | omega, by first | decide | omega⟩, (by first | rfl | trivial | assumption | omega | (intros; first | rfl | assumption | omega | (exfalso; omega))), (by first | rfl | trivial | assumption | omega | (intros; first | rfl | assumption | omega | (exfalso; omega))), (by first | rfl | trivial | assumption | omega | (intros; first | rfl | assumption | omega | (exfalso; omega))), (by first | rfl | trivial | assumption | omega | (intros; first | rfl | assumption | omega | (exfalso; omega))), (by first | rfl | trivial | assumption | omega | (intros; first | rfl | assumption | omega | (exfalso; omega))), (by first | rfl | trivial | assumption | omega | (intros; first | rfl | assumption | omega | (exfalso; omega)))⟩)) dX12_readsClause_94
            · exact absurd c8 (by decide)
          · refine lv_if_eq (tgt := 53) hx hb dX12_readsClause_43 (by decide) (fun c57 => ?_) (fun c57 => ?_)
            · exact absurd c57 (by decide)
            · refine lv_aload_n hx hb dX12_readsClause_46 rfl (lv_at hl 0 rfl) ?_
              refine hw_cM0 (va_runV (As := []) (rest := []) ⟨hx, hb, hml, hown, hts⟩ (k_X12_readsLock l D G h0 _ rm ud_m ky_m lo_m wk_m dk_m ln_m sm_m fi_m be_m rk_m rl_m rw_m cl_m dg_m G0 Rm ⟨by first | decide | omega, by first | decide | omega⟩ ⟨by first | decide | omega, by first | decide | omega⟩ ⟨by first | decide | omega, by first | decide | omega⟩ ⟨by first | decide | omega, by first | decide | omega⟩ ⟨by first | decide | omega, by first | decide | omega⟩ ⟨by first | decide | omega, by first | decide | omega⟩ ⟨by first | decide | omega, by first | decide | omega⟩ ⟨by first | decide | omega, by first | decide | omega⟩ ⟨by first | decide | omega, by first | decide | omega⟩ ⟨by first | decide | omega, by first | decide | omega⟩ ⟨by first | decide | omega, by first | decide | omega⟩ ⟨by first | decide | omega, by first | decide | omega⟩ (by first | assumption | decide | omega) (by first | assumption | decide | omega) (by first | assumption | decide | omega)) (cwV 0 hts gX12_readsClause_X12_readsLock rfl rfl rfl (by decide +kernel) ⟨Nat.le_of_ble_eq_true rfl, Nat.le_of_ble_eq_true rfl⟩) (hw_pV (hw_rc (q := (RX12, TX12, 45)) hK vm rfl) hH hK hST hS (by decide) (fun _ h => Or.inl h) vm) rfl rfl hl.1 rfl (lv_room (Nat.le_of_ble_eq_true rfl)) dX12_readsClause_47 ⟨Nat.le_of_ble_eq_true rfl, Nat.le_of_ble_eq_true rfl⟩) hS (hw_AWsub (by decide) (fun _ _ => rfl) hS.1) (fun v H locs hp hz hk hS => ?_)
              rcases hp with ⟨x58, x59, x60, x61, rfl, hH, v62, g63, g64, g65, g66, q67, q68, q69⟩ | ⟨x70, x71, x72, x73, rfl, hH, v74, g75, g76, g77, g78, q79, q80, q81⟩
              · refine lv_goto (tgt := 94) hx hb dX12_readsClause_50 (by decide) ?_
                exact hw_iretM (v := 0) hx hb hr hlocks hQ hS rfl (Or.inl ⟨x58, x59, rk_m, x60, rw_m, ky_m, x61, wk_m, dk_m, rfl, hH, v62, ⟨by first | decide | omega, by first | decide | omega⟩, ⟨by first | decide | omega, by first | decide | omega⟩, ⟨by first | decide | omega, by first | decide | omega⟩, ⟨by first | decide | omega, by first | decide | omega⟩, ⟨by first | decide | omega, by first | decide | omega⟩, ⟨by first | decide | omega, by first | decide | omega⟩, ⟨by first | decide | omega, by first | decide | omega⟩, ⟨by first | decide | omega, by first | decide | omega⟩, (by first | rfl | trivial | assumption | omega | (intros; first | rfl | assumption | omega | (exfalso; omega))), (by first | rfl | trivial | assumption | omega | (intros; first | rfl | assumption | omega | (exfalso; omega))), (by first | rfl | trivial | assumption | omega | (intros; first | rfl | assumption | omega | (exfalso; omega))), (by first | rfl | trivial | assumption | omega | (intros; first | rfl | assumption | omega | (exfalso; omega))), (by first | rfl | trivial | assumption | omega | (intros; first | rfl | assumption | omega | (exfalso; omega)))⟩) dX12_readsClause_94
              · refine lv_goto (tgt := 94) hx hb dX12_readsClause_50 (by decide) ?_
                exact hw_iretM (v := 1) hx hb hr hlocks hQ hS rfl (Or.inr (⟨x70, x71, rk_m, x72, rw_m, ky_m, x73, wk_m, dk_m, rfl, hH, v74, ⟨by first | decide | omega, by first | decide | omega⟩, ⟨by first | decide | omega, by first | decide | omega⟩, ⟨by first | decide | omega, by first | decide | omega⟩, ⟨by first | decide | omega, by first | decide | omega⟩, ⟨by first | decide | omega, by first | decide | omega⟩, ⟨by first | decide | omega, by first | decide | omega⟩, ⟨by first | decide | omega, by first | decide | omega⟩, ⟨by first | decide | omega, by first | decide | omega⟩, (by first | rfl | trivial | assumption | omega | (intros; first | rfl | assumption | omega | (exfalso; omega))), (by first | rfl | trivial | assumption | omega | (intros; first | rfl | assumption | omega | (exfalso; omega))), (by first | rfl | trivial | assumption | omega | (intros; first | rfl | assumption | omega | (exfalso; omega))), (by first | rfl | trivial | assumption | omega | (intros; first | rfl | assumption | omega | (exfalso; omega))), (by first | rfl | trivial | assumption | omega | (intros; first | rfl | assumption | omega | (exfalso; omega))), (by first | rfl | trivial | assumption | omega | (intros; first | rfl | assumption | omega | (exfalso; omega)))⟩)) dX12_readsClause_94
        · exact absurd c6 (by decide)
      · refine lv_if_eq (tgt := 35) hx hb dX12_readsClause_25 (by decide) (fun c82 => ?_) (fun c82 => ?_)
        · exact absurd c82 (by decide)
        · refine lv_aload_n hx hb dX12_readsClause_28 rfl (lv_at hl 0 rfl) ?_
          refine hw_cM0 (va_runV (As := []) (rest := []) ⟨hx, hb, hml, hown, hts⟩ (k_X12_readsLand l D G h0 _ rm ud_m ky_m lo_m wk_m dk_m ln_m sm_m fi_m be_m rk_m rl_m rw_m cl_m dg_m G0 Rm ⟨by first | decide | omega, by first | decide | omega⟩ ⟨by first | decide | omega, by first | decide | omega⟩ ⟨by first | decide | omega, by first | decide | omega⟩ ⟨by first | decide | omega, by first | decide | omega⟩ ⟨by first | decide | omega, by first | decide | omega⟩ ⟨by first | decide | omega, by first | decide | omega⟩ ⟨by first | decide | omega, by first | decide | omega⟩ ⟨by first | decide | omega, by first | decide | omega⟩ ⟨by first | decide | omega, by first | decide | omega⟩ ⟨by first | decide | omega, by first | decide | omega⟩ ⟨by first | decide | omega, by first | decide | omega⟩ ⟨by first | decide | omega, by first | decide | omega⟩ (by first | assumption | decide | omega)) (cwV 0 hts gX12_readsClause_X12_readsLand rfl rfl rfl (by decide +kernel) ⟨Nat.le_of_ble_eq_true rfl, Nat.le_of_ble_eq_true rfl⟩) (hw_pV (hw_rc (q := (RX12, TX12, 45)) hK vm rfl) hH hK hST hS (by decide) (fun _ h => Or.inl h) vm) rfl rfl hl.1 rfl (lv_room (Nat.le_of_ble_eq_true rfl)) dX12_readsClause_29 ⟨Nat.le_of_ble_eq_true rfl, Nat.le_of_ble_eq_true rfl⟩) hS (hw_AWsub (by decide) (fun _ _ => rfl) hS.1) (fun v H locs hp hz hk hS => ?_)
          obtain ⟨x83, x84, x85, x86, x87, x88, x89, x90, x91, rfl, hH, v92, g93, g94, g95, g96, g97, g98, g99, g100, q101, q102, q103, q104, q105⟩ := hp
          refine lv_goto (tgt := 94) hx hb dX12_readsClause_32 (by decide) ?_
          exact hw_iretM (v := 1) hx hb hr hlocks hQ hS rfl (Or.inr (⟨x83, x84, x85, x86, x87, x88, x89, x90, x91, rfl, hH, v92, ⟨by first | decide | omega, by first | decide | omega⟩, ⟨by first | decide | omega, by first | decide | omega⟩, ⟨by first | decide | omega, by first | decide | omega⟩, ⟨by first | decide | omega, by first | decide | omega⟩, ⟨by first | decide | omega, by first | decide | omega⟩, ⟨by first | decide | omega, by first | decide | omega⟩, ⟨by first | decide | omega, by first | decide | omega⟩, ⟨by first | decide | omega, by first | decide | omega⟩, (by first | rfl | trivial | assumption | omega | (intros; first | rfl | assumption | omega | (exfalso; omega))), (by first | rfl | trivial | assumption | omega | (intros; first | rfl | assumption | omega | (exfalso; omega))), (by first | rfl | trivial | assumption | omega | (intros; first | rfl | assumption | omega | (exfalso; omega))), (by first | rfl | trivial | assumption | omega | (intros; first | rfl | assumption | omega | (exfalso; omega))), (by first | rfl | trivial | assumption | omega | (intros; first | rfl | assumption | omega | (exfalso; omega))), (by first | rfl | trivial | assumption | omega | (intros; first | rfl | assumption | omega | (exfalso; omega)))⟩)) dX12_readsClause_94
    · exact absurd c4 (by decide)
  · refine lv_iconst (v := (-1)) hx hb dX12_readsClause_4 (by decide) ?_
    refine lv_icmp_eq (tgt := 17) hx hb dX12_readsClause_5 (by decide) (fun c106 => ?_) (fun c106 => ?_)
    · have b107 : x1.toInt = (-1) := hw_ieq c106
      exfalso; omega
    · have b108 : x1.toInt ≠ (-1) := hw_ine c106
      refine lv_aload_n hx hb dX12_readsClause_8 rfl (lv_at hl 0 rfl) ?_
      refine lv_aload_n hx hb dX12_readsClause_9 rfl (lv_at hl 0 rfl) ?_
      refine hw_cR (va_runV (As := []) (rest := [.ref h0]) ⟨hx, hb, hml, hown, hts⟩ (k_X12_kindHere l D G h0 _ rm ud_m ky_m lo_m wk_m dk_m ln_m sm_m fi_m be_m rk_m rl_m rw_m cl_m dg_m G0 Rm ⟨by first | decide | omega, by first | decide | omega⟩ ⟨by first | decide | omega, by first | decide | omega⟩ ⟨by first | decide | omega, by first | decide | omega⟩ ⟨by first | decide | omega, by first | decide | omega⟩ ⟨by first | decide | omega, by first | decide | omega⟩ ⟨by first | decide | omega, by first | decide | omega⟩ ⟨by first | decide | omega, by first | decide | omega⟩ ⟨by first | decide | omega, by first | decide | omega⟩ ⟨by first | decide | omega, by first | decide | omega⟩ ⟨by first | decide | omega, by first | decide | omega⟩ ⟨by first | decide | omega, by first | decide | omega⟩ ⟨by first | decide | omega, by first | decide | omega⟩) (cwV 0 hts gX12_readsClause_X12_kindHere rfl rfl rfl (by decide +kernel) ⟨Nat.le_of_ble_eq_true rfl, Nat.le_of_ble_eq_true rfl⟩) (hw_pV (hw_rc (q := (RX12, TX12, 45)) hK vm rfl) hH hK hST hS (by decide) (fun _ h => Or.inl h) vm) rfl rfl hl.1 rfl (lv_room (Nat.le_of_ble_eq_true rfl)) dX12_readsClause_10 ⟨Nat.le_of_ble_eq_true rfl, Nat.le_of_ble_eq_true rfl⟩) (fun v hp => ?_)
      rcases hp with rfl | ⟨x109, rfl, g110, q111⟩
      · refine hw_cM0 (va_runV (As := [.int (-1)]) (rest := []) ⟨hx, hb, hml, hown, hts⟩ (k_X12_readsKey l D G h0 (-1) _ rm ud_m ky_m lo_m wk_m dk_m ln_m sm_m fi_m be_m rk_m rl_m rw_m cl_m dg_m G0 Rm ⟨by first | decide | omega, by first | decide | omega⟩ ⟨by first | decide | omega, by first | decide | omega⟩ ⟨by first | decide | omega, by first | decide | omega⟩ ⟨by first | decide | omega, by first | decide | omega⟩ ⟨by first | decide | omega, by first | decide | omega⟩ ⟨by first | decide | omega, by first | decide | omega⟩ ⟨by first | decide | omega, by first | decide | omega⟩ ⟨by first | decide | omega, by first | decide | omega⟩ ⟨by first | decide | omega, by first | decide | omega⟩ ⟨by first | decide | omega, by first | decide | omega⟩ ⟨by first | decide | omega, by first | decide | omega⟩ ⟨by first | decide | omega, by first | decide | omega⟩ (by first | assumption | decide | omega) (by first | assumption | decide | omega) (by first | assumption | decide | omega)) (cwV 1 hts gX12_readsClause_X12_readsKey rfl rfl rfl (by decide +kernel) ⟨Nat.le_of_ble_eq_true rfl, Nat.le_of_ble_eq_true rfl⟩) (hw_pV (hw_rc (q := (RX12, TX12, 45)) hK vm rfl) hH hK hST hS (by decide) (fun _ h => Or.inl h) vm) rfl rfl hl.1 rfl (lv_room (Nat.le_of_ble_eq_true rfl)) dX12_readsClause_13 ⟨Nat.le_of_ble_eq_true rfl, Nat.le_of_ble_eq_true rfl⟩) hS (hw_AWsub (by decide) (fun _ _ => rfl) hS.1) (fun v H locs hp hz hk hS => ?_)
        have l112 : ((-1) : Int32).toInt = (-1) := rfl
        rcases hp with ⟨x113, x114, x115, x116, rfl, hH, v117, g118, g119, g120, g121, q122, q123, q124⟩ | ⟨x125, x126, x127, x128, rfl, hH, v129, g130, g131, g132, g133, q134, q135, q136⟩
        · exact hw_iretM (v := 0) hx hb hr hlocks hQ hS rfl (Or.inl ⟨x113, x114, x115, rl_m, rw_m, x116, lo_m, wk_m, dk_m, rfl, hH, v117, ⟨by first | decide | omega, by first | decide | omega⟩, ⟨by first | decide | omega, by first | decide | omega⟩, ⟨by first | decide | omega, by first | decide | omega⟩, ⟨by first | decide | omega, by first | decide | omega⟩, ⟨by first | decide | omega, by first | decide | omega⟩, ⟨by first | decide | omega, by first | decide | omega⟩, ⟨by first | decide | omega, by first | decide | omega⟩, ⟨by first | decide | omega, by first | decide | omega⟩, (by first | rfl | trivial | assumption | omega | (intros; first | rfl | assumption | omega | (exfalso; omega))), (by first | rfl | trivial | assumption | omega | (intros; first | rfl | assumption | omega | (exfalso; omega))), (by first | rfl | trivial | assumption | omega | (intros; first | rfl | assumption | omega | (exfalso; omega))), (by first | rfl | trivial | assumption | omega | (intros; first | rfl | assumption | omega | (exfalso; omega))), (by first | rfl | trivial | assumption | omega | (intros; first | rfl | assumption | omega | (exfalso; omega)))⟩) dX12_readsClause_16
        · exact hw_iretM (v := 1) hx hb hr hlocks hQ hS rfl (Or.inr (⟨x125, x126, x127, rl_m, rw_m, x128, lo_m, wk_m, dk_m, rfl, hH, v129, ⟨by first | decide | omega, by first | decide | omega⟩, ⟨by first | decide | omega, by first | decide | omega⟩, ⟨by first | decide | omega, by first | decide | omega⟩, ⟨by first | decide | omega, by first | decide | omega⟩, ⟨by first | decide | omega, by first | decide | omega⟩, ⟨by first | decide | omega, by first | decide | omega⟩, ⟨by first | decide | omega, by first | decide | omega⟩, ⟨by first | decide | omega, by first | decide | omega⟩, (by first | rfl | trivial | assumption | omega | (intros; first | rfl | assumption | omega | (exfalso; omega))), (by first | rfl | trivial | assumption | omega | (intros; first | rfl | assumption | omega | (exfalso; omega))), (by first | rfl | trivial | assumption | omega | (intros; first | rfl | assumption | omega | (exfalso; omega))), (by first | rfl | trivial | assumption | omega | (intros; first | rfl | assumption | omega | (exfalso; omega))), (by first | rfl | trivial | assumption | omega | (intros; first | rfl | assumption | omega | (exfalso; omega))), (by first | rfl | trivial | assumption | omega | (intros; first | rfl | assumption | omega | (exfalso; omega)))⟩)) dX12_readsClause_16
      · refine hw_cM0 (va_runV (As := [.int x109]) (rest := []) ⟨hx, hb, hml, hown, hts⟩ (k_X12_readsKey l D G h0 x109 _ rm ud_m ky_m lo_m wk_m dk_m ln_m sm_m fi_m be_m rk_m rl_m rw_m cl_m dg_m G0 Rm ⟨by first | decide | omega, by first | decide | omega⟩ ⟨by first | decide | omega, by first | decide | omega⟩ ⟨by first | decide | omega, by first | decide | omega⟩ ⟨by first | decide | omega, by first | decide | omega⟩ ⟨by first | decide | omega, by first | decide | omega⟩ ⟨by first | decide | omega, by first | decide | omega⟩ ⟨by first | decide | omega, by first | decide | omega⟩ ⟨by first | decide | omega, by first | decide | omega⟩ ⟨by first | decide | omega, by first | decide | omega⟩ ⟨by first | decide | omega, by first | decide | omega⟩ ⟨by first | decide | omega, by first | decide | omega⟩ ⟨by first | decide | omega, by first | decide | omega⟩ (by first | assumption | decide | omega) (by first | assumption | decide | omega) (by first | assumption | decide | omega)) (cwV 1 hts gX12_readsClause_X12_readsKey rfl rfl rfl (by decide +kernel) ⟨Nat.le_of_ble_eq_true rfl, Nat.le_of_ble_eq_true rfl⟩) (hw_pV (hw_rc (q := (RX12, TX12, 45)) hK vm rfl) hH hK hST hS (by decide) (fun _ h => Or.inl h) vm) rfl rfl hl.1 rfl (lv_room (Nat.le_of_ble_eq_true rfl)) dX12_readsClause_13 ⟨Nat.le_of_ble_eq_true rfl, Nat.le_of_ble_eq_true rfl⟩) hS (hw_AWsub (by decide) (fun _ _ => rfl) hS.1) (fun v H locs hp hz hk hS => ?_)
        rcases hp with ⟨x137, x138, x139, x140, rfl, hH, v141, g142, g143, g144, g145, q146, q147, q148⟩ | ⟨x149, x150, x151, x152, rfl, hH, v153, g154, g155, g156, g157, q158, q159, q160⟩
        · exact hw_iretM (v := 0) hx hb hr hlocks hQ hS rfl (Or.inl ⟨x137, x138, x139, rl_m, rw_m, x140, lo_m, wk_m, dk_m, rfl, hH, v141, ⟨by first | decide | omega, by first | decide | omega⟩, ⟨by first | decide | omega, by first | decide | omega⟩, ⟨by first | decide | omega, by first | decide | omega⟩, ⟨by first | decide | omega, by first | decide | omega⟩, ⟨by first | decide | omega, by first | decide | omega⟩, ⟨by first | decide | omega, by first | decide | omega⟩, ⟨by first | decide | omega, by first | decide | omega⟩, ⟨by first | decide | omega, by first | decide | omega⟩, (by first | rfl | trivial | assumption | omega | (intros; first | rfl | assumption | omega | (exfalso; omega))), (by first | rfl | trivial | assumption | omega | (intros; first | rfl | assumption | omega | (exfalso; omega))), (by first | rfl | trivial | assumption | omega | (intros; first | rfl | assumption | omega | (exfalso; omega))), (by first | rfl | trivial | assumption | omega | (intros; first | rfl | assumption | omega | (exfalso; omega))), (by first | rfl | trivial | assumption | omega | (intros; first | rfl | assumption | omega | (exfalso; omega)))⟩) dX12_readsClause_16
        · exact hw_iretM (v := 1) hx hb hr hlocks hQ hS rfl (Or.inr (⟨x149, x150, x151, rl_m, rw_m, x152, lo_m, wk_m, dk_m, rfl, hH, v153, ⟨by first | decide | omega, by first | decide | omega⟩, ⟨by first | decide | omega, by first | decide | omega⟩, ⟨by first | decide | omega, by first | decide | omega⟩, ⟨by first | decide | omega, by first | decide | omega⟩, ⟨by first | decide | omega, by first | decide | omega⟩, ⟨by first | decide | omega, by first | decide | omega⟩, ⟨by first | decide | omega, by first | decide | omega⟩, ⟨by first | decide | omega, by first | decide | omega⟩, (by first | rfl | trivial | assumption | omega | (intros; first | rfl | assumption | omega | (exfalso; omega))), (by first | rfl | trivial | assumption | omega | (intros; first | rfl | assumption | omega | (exfalso; omega))), (by first | rfl | trivial | assumption | omega | (intros; first | rfl | assumption | omega | (exfalso; omega))), (by first | rfl | trivial | assumption | omega | (intros; first | rfl | assumption | omega | (exfalso; omega))), (by first | rfl | trivial | assumption | omega | (intros; first | rfl | assumption | omega | (exfalso; omega))), (by first | rfl | trivial | assumption | omega | (intros; first | rfl | assumption | omega | (exfalso; omega)))⟩)) dX12_readsClause_16

set_option maxHeartbeats 4000000 in
set_option maxRecDepth 100000 in
theorem k_X12_reads (l : Launch) (D : hw_D) (G : Nat → Nat) (h0 : Nat) (p1 : Int32) (sz : Nat) (rm : Nat → Nat) (ud_m ky_m lo_m wk_m dk_m ln_m sm_m fi_m be_m rk_m rl_m rw_m cl_m dg_m : Int32) (G0 : G h0 = 9) (Rm : hw_RM G rm) (gud_m : 0 ≤ ud_m.toInt ∧ ud_m.toInt ≤ 8) (gky_m : 0 ≤ ky_m.toInt ∧ ky_m.toInt ≤ 7) (glo_m : 0 ≤ lo_m.toInt ∧ lo_m.toInt ≤ 7) (gwk_m : 0 ≤ wk_m.toInt ∧ wk_m.toInt ≤ 3) (gln_m : 0 ≤ ln_m.toInt ∧ ln_m.toInt ≤ 200) (gsm_m : 0 ≤ sm_m.toInt ∧ sm_m.toInt ≤ 6) (gfi_m : 0 ≤ fi_m.toInt ∧ fi_m.toInt ≤ 200) (gbe_m : 0 ≤ be_m.toInt ∧ be_m.toInt ≤ 200) (grk_m : 0 ≤ rk_m.toInt ∧ rk_m.toInt ≤ 7) (grl_m : 0 ≤ rl_m.toInt ∧ rl_m.toInt ≤ 7) (grw_m : 0 ≤ rw_m.toInt ∧ rw_m.toInt ≤ 3) (gdg_m : 0 ≤ dg_m.toInt ∧ dg_m.toInt ≤ 1) (hz : p1 = 0 ∨ p1 = 1) : Met l yX12_reads wsX12_reads ({ frames := 6, cells := 0, slots := 0, locals := 131 } : Room) (hw_PC D G [.ref h0, .int p1] sz (fun H => va_at D.1 vwCl (h0, .inr (11, hw_LM rm ud_m ky_m lo_m wk_m dk_m ln_m sm_m fi_m be_m rk_m rl_m rw_m cl_m dg_m)) H)) (hw_QM (fun v H => (∃ (fi_m2 : Int32) (be_m2 : Int32) (rk_m2 : Int32) (rl_m2 : Int32) (rw_m2 : Int32) (ky_m2 : Int32) (lo_m2 : Int32) (wk_m2 : Int32) (dk_m2 : Int32) (dg_m2 : Int32) (cl_m2 : Int32), v = some (.int 0) ∧ hw_HT D G H ∧ va_at D.1 vwCl (h0, .inr (11, hw_LM rm ud_m ky_m2 lo_m2 wk_m2 dk_m2 ln_m sm_m fi_m2 be_m2 rk_m2 rl_m2 rw_m2 cl_m2 dg_m2)) H ∧ (0 ≤ fi_m2.toInt ∧ fi_m2.toInt ≤ 200) ∧ (0 ≤ be_m2.toInt ∧ be_m2.toInt ≤ 200) ∧ (0 ≤ rk_m2.toInt ∧ rk_m2.toInt ≤ 7) ∧ (0 ≤ rl_m2.toInt ∧ rl_m2.toInt ≤ 7) ∧ (0 ≤ rw_m2.toInt ∧ rw_m2.toInt ≤ 3) ∧ (0 ≤ ky_m2.toInt ∧ ky_m2.toInt ≤ 7) ∧ (0 ≤ lo_m2.toInt ∧ lo_m2.toInt ≤ 7) ∧ (0 ≤ wk_m2.toInt ∧ wk_m2.toInt ≤ 3) ∧ (0 ≤ dg_m2.toInt ∧ dg_m2.toInt ≤ 1) ∧ fi_m2.toInt ≤ ln_m.toInt) ∨ (∃ (fi_m2 : Int32) (be_m2 : Int32) (rk_m2 : Int32) (rl_m2 : Int32) (rw_m2 : Int32) (ky_m2 : Int32) (lo_m2 : Int32) (wk_m2 : Int32) (dk_m2 : Int32) (dg_m2 : Int32) (cl_m2 : Int32), v = some (.int 1) ∧ hw_HT D G H ∧ va_at D.1 vwCl (h0, .inr (11, hw_LM rm ud_m ky_m2 lo_m2 wk_m2 dk_m2 ln_m sm_m fi_m2 be_m2 rk_m2 rl_m2 rw_m2 cl_m2 dg_m2)) H ∧ (0 ≤ fi_m2.toInt ∧ fi_m2.toInt ≤ 200) ∧ (0 ≤ be_m2.toInt ∧ be_m2.toInt ≤ 200) ∧ (0 ≤ rk_m2.toInt ∧ rk_m2.toInt ≤ 7) ∧ (0 ≤ rl_m2.toInt ∧ rl_m2.toInt ≤ 7) ∧ (0 ≤ rw_m2.toInt ∧ rw_m2.toInt ≤ 3) ∧ (0 ≤ ky_m2.toInt ∧ ky_m2.toInt ≤ 7) ∧ (0 ≤ lo_m2.toInt ∧ lo_m2.toInt ≤ 7) ∧ (0 ≤ wk_m2.toInt ∧ wk_m2.toInt ≤ 3) ∧ (0 ≤ dg_m2.toInt ∧ dg_m2.toInt ≤ 1) ∧ 0 < ln_m.toInt ∧ fi_m2.toInt ≤ ln_m.toInt)) (hw_AW G [9, 44, 45, 46, 48, 49, 50, 51, 53, 67] sz)) 0 0 (hw_AW G [9, 44, 45, 46, 48, 49, 50, 51, 53, 67] sz) := by
  refine hw_met (cc := cX12_reads) (maxL := 3) (ret := (some .boolean)) (plainFor_of_name (by decide)) rfl (Nat.le_of_ble_eq_true rfl) ?_
  intro p e s m args below meth c QQ ls hsz hx hb hml hr hts hown hlocks hnm hH hK hST hF hQ hl
  subst hsz
  have hS : va_S (hw_AW G [9, 44, 45, 46, 48, 49, 50, 51, 53, 67] s.heap.size) s.heap s.heap [] := va_S.rf
  have vm := hF
  have hl : lv_has ls 3 [(0, .ref h0), (1, .int p1)] := hl
  have u_11 : ∀ w ∈ u_ws RX12 TX12 45, w.before args s = true := fun w hw => hts w ((by decide +kernel : ∀ w ∈ u_ws RX12 TX12 45, w ∈ wsX12_reads) w hw)
  have fp_162_11 : hw_FP s args m 162 11 26 false .boolean := ⟨RX12, "WardWalkersModel", RX12, TX12, 45, tyX12, u_11, hown, rfl, by decide, (hts (.fieldLink RX12 162 "WardWalkersModel" "doing" "Z") (by decide +kernel)), (fun _ h9 => h9), tyX12_ok, nmX12, rfl, (fun h => by cases h), by decide +kernel⟩
  have fp_126_11 : hw_FP s args m 126 11 21 false .int := ⟨RX12, "WardWalkersModel", RX12, TX12, 45, tyX12, u_11, hown, rfl, by decide, (hts (.fieldLink RX12 126 "WardWalkersModel" "behind" "I") (by decide +kernel)), (fun _ h9 => h9), tyX12_ok, nmX12, rfl, (fun h => by cases h), by decide +kernel⟩
  have fp_195_11 : hw_FP s args m 195 11 25 false .int := ⟨RX12, "WardWalkersModel", RX12, TX12, 45, tyX12, u_11, hown, rfl, by decide, (hts (.fieldLink RX12 195 "WardWalkersModel" "clauses" "I") (by decide +kernel)), (fun _ h9 => h9), tyX12_ok, nmX12, rfl, (fun h => by cases h), by decide +kernel⟩
  have fg_142_11 : hw_FG s args m 142 11 3 := ⟨RX12, "WardWalkersModel", RX12, TX12, 45, u_11, hown, rfl, by decide, (hts (.fieldLink RX12 142 "WardWalkersModel" "keys" "I") (by decide +kernel)), (fun _ h9 => h9)⟩
  have fp_155_11 : hw_FP s args m 155 11 22 false .int := ⟨RX12, "WardWalkersModel", RX12, TX12, 45, tyX12, u_11, hown, rfl, by decide, (hts (.fieldLink RX12 155 "WardWalkersModel" "readKeys" "I") (by decide +kernel)), (fun _ h9 => h9), tyX12_ok, nmX12, rfl, (fun h => by cases h), by decide +kernel⟩
  have fg_145_11 : hw_FG s args m 145 11 7 := ⟨RX12, "WardWalkersModel", RX12, TX12, 45, u_11, hown, rfl, by decide, (hts (.fieldLink RX12 145 "WardWalkersModel" "locks" "I") (by decide +kernel)), (fun _ h9 => h9)⟩
  have fp_166_11 : hw_FP s args m 166 11 23 false .int := ⟨RX12, "WardWalkersModel", RX12, TX12, 45, tyX12, u_11, hown, rfl, by decide, (hts (.fieldLink RX12 166 "WardWalkersModel" "readLocks" "I") (by decide +kernel)), (fun _ h9 => h9), tyX12_ok, nmX12, rfl, (fun h => by cases h), by decide +kernel⟩
  have fg_148_11 : hw_FG s args m 148 11 12 := ⟨RX12, "WardWalkersModel", RX12, TX12, 45, u_11, hown, rfl, by decide, (hts (.fieldLink RX12 148 "WardWalkersModel" "walkers" "I") (by decide +kernel)), (fun _ h9 => h9)⟩
  have fp_169_11 : hw_FP s args m 169 11 24 false .int := ⟨RX12, "WardWalkersModel", RX12, TX12, 45, tyX12, u_11, hown, rfl, by decide, (hts (.fieldLink RX12 169 "WardWalkersModel" "readWalkers" "I") (by decide +kernel)), (fun _ h9 => h9), tyX12_ok, nmX12, rfl, (fun h => by cases h), by decide +kernel⟩
  have fg_129_11 : hw_FG s args m 129 11 20 := ⟨RX12, "WardWalkersModel", RX12, TX12, 45, u_11, hown, rfl, by decide, (hts (.fieldLink RX12 129 "WardWalkersModel" "first" "I") (by decide +kernel)), (fun _ h9 => h9)⟩
  have fg_115_11 : hw_FG s args m 115 11 16 := ⟨RX12, "WardWalkersModel", RX12, TX12, 45, u_11, hown, rfl, by decide, (hts (.fieldLink RX12 115 "WardWalkersModel" "length" "I") (by decide +kernel)), (fun _ h9 => h9)⟩
  have fg_195_11 : hw_FG s args m 195 11 25 := ⟨RX12, "WardWalkersModel", RX12, TX12, 45, u_11, hown, rfl, by decide, (hts (.fieldLink RX12 195 "WardWalkersModel" "clauses" "I") (by decide +kernel)), (fun _ h9 => h9)⟩
  have fg_45_11 : hw_FG s args m 45 11 15 := ⟨RX12, "WardWalkersModel", RX12, TX12, 45, u_11, hown, rfl, by decide, (hts (.fieldLink RX12 45 "WardWalkersModel" "text" "[I") (by decide +kernel)), (fun _ h9 => h9)⟩
  have l01 : (1 : Int32).toInt = 1 := rfl
  have l00 : (0 : Int32).toInt = 0 := rfl
  have hz1 : 0 ≤ p1.toInt ∧ p1.toInt ≤ 1 := by rcases hz with rfl | rfl <;> decide
  refine lv_aload_n hx hb dX12_reads_0 rfl (lv_at hl 0 rfl) ?_
  refine lv_iload_n hx hb dX12_reads_1 rfl (lv_at hl 1 rfl) ?_
  refine hw_put (v := .int p1) (fs' := hw_LM rm ud_m ky_m lo_m wk_m dk_m ln_m sm_m fi_m be_m rk_m rl_m rw_m cl_m p1) hx hb fp_162_11 hK hH vm (Nat.le_of_ble_eq_true rfl) rfl (hw_zn hz) (hw_zf hz) (fun _ => by rw [G0]; exact ⟨rm, ud_m, ky_m, lo_m, wk_m, dk_m, ln_m, sm_m, fi_m, be_m, rk_m, rl_m, rw_m, cl_m, p1, rfl, Rm, ⟨by first | decide | omega, by first | decide | omega⟩, ⟨by first | decide | omega, by first | decide | omega⟩, ⟨by first | decide | omega, by first | decide | omega⟩, ⟨by first | decide | omega, by first | decide | omega⟩, ⟨by first | decide | omega, by first | decide | omega⟩, ⟨by first | decide | omega, by first | decide | omega⟩, ⟨by first | decide | omega, by first | decide | omega⟩, ⟨by first | decide | omega, by first | decide | omega⟩, ⟨by first | decide | omega, by first | decide | omega⟩, ⟨by first | decide | omega, by first | decide | omega⟩, ⟨by first | decide | omega, by first | decide | omega⟩, ⟨by first | decide | omega, by first | decide | omega⟩⟩) hS (hw_AWi G0 (by decide)) dX12_reads_2 (fun H locs hH vm oq hz hS => ?_)
  refine lv_aload_n hx hb dX12_reads_5 rfl (lv_at hl 0 rfl) ?_
  refine lv_iconst (v := 0) hx hb dX12_reads_6 (by decide) ?_
  refine hw_put (v := .int 0) (fs' := hw_LM rm ud_m ky_m lo_m wk_m dk_m ln_m sm_m fi_m 0 rk_m rl_m rw_m cl_m p1) hx hb fp_126_11 hK hH vm (Nat.le_of_ble_eq_true rfl) rfl rfl rfl (fun _ => by rw [G0]; exact ⟨rm, ud_m, ky_m, lo_m, wk_m, dk_m, ln_m, sm_m, fi_m, 0, rk_m, rl_m, rw_m, cl_m, p1, rfl, Rm, ⟨by first | decide | omega, by first | decide | omega⟩, ⟨by first | decide | omega, by first | decide | omega⟩, ⟨by first | decide | omega, by first | decide | omega⟩, ⟨by first | decide | omega, by first | decide | omega⟩, ⟨by first | decide | omega, by first | decide | omega⟩, ⟨by first | decide | omega, by first | decide | omega⟩, ⟨by first | decide | omega, by first | decide | omega⟩, ⟨by first | decide | omega, by first | decide | omega⟩, ⟨by first | decide | omega, by first | decide | omega⟩, ⟨by first | decide | omega, by first | decide | omega⟩, ⟨by first | decide | omega, by first | decide | omega⟩, ⟨by first | decide | omega, by first | decide | omega⟩⟩) hS (hw_AWi G0 (by decide)) dX12_reads_7 (fun H locs hH vm oq hz hS => ?_)
  refine lv_aload_n hx hb dX12_reads_10 rfl (lv_at hl 0 rfl) ?_
  refine lv_iconst (v := 0) hx hb dX12_reads_11 (by decide) ?_
  refine hw_put (v := .int 0) (fs' := hw_LM rm ud_m ky_m lo_m wk_m dk_m ln_m sm_m fi_m 0 rk_m rl_m rw_m 0 p1) hx hb fp_195_11 hK hH vm (Nat.le_of_ble_eq_true rfl) rfl rfl rfl (fun _ => by rw [G0]; exact ⟨rm, ud_m, ky_m, lo_m, wk_m, dk_m, ln_m, sm_m, fi_m, 0, rk_m, rl_m, rw_m, 0, p1, rfl, Rm, ⟨by first | decide | omega, by first | decide | omega⟩, ⟨by first | decide | omega, by first | decide | omega⟩, ⟨by first | decide | omega, by first | decide | omega⟩, ⟨by first | decide | omega, by first | decide | omega⟩, ⟨by first | decide | omega, by first | decide | omega⟩, ⟨by first | decide | omega, by first | decide | omega⟩, ⟨by first | decide | omega, by first | decide | omega⟩, ⟨by first | decide | omega, by first | decide | omega⟩, ⟨by first | decide | omega, by first | decide | omega⟩, ⟨by first | decide | omega, by first | decide | omega⟩, ⟨by first | decide | omega, by first | decide | omega⟩, ⟨by first | decide | omega, by first | decide | omega⟩⟩) hS (hw_AWi G0 (by decide)) dX12_reads_12 (fun H locs hH vm oq hz hS => ?_)
  refine lv_aload_n hx hb dX12_reads_15 rfl (lv_at hl 0 rfl) ?_
  refine lv_aload_n hx hb dX12_reads_16 rfl (lv_at hl 0 rfl) ?_
  refine hw_get hx hb fg_142_11 hK vm rfl dX12_reads_17 ?_
  refine hw_put (v := .int ky_m) (fs' := hw_LM rm ud_m ky_m lo_m wk_m dk_m ln_m sm_m fi_m 0 ky_m rl_m rw_m 0 p1) hx hb fp_155_11 hK hH vm (Nat.le_of_ble_eq_true rfl) rfl rfl rfl (fun _ => by rw [G0]; exact ⟨rm, ud_m, ky_m, lo_m, wk_m, dk_m, ln_m, sm_m, fi_m, 0, ky_m, rl_m, rw_m, 0, p1, rfl, Rm, ⟨by first | decide | omega, by first | decide | omega⟩, ⟨by first | decide | omega, by first | decide | omega⟩, ⟨by first | decide | omega, by first | decide | omega⟩, ⟨by first | decide | omega, by first | decide | omega⟩, ⟨by first | decide | omega, by first | decide | omega⟩, ⟨by first | decide | omega, by first | decide | omega⟩, ⟨by first | decide | omega, by first | decide | omega⟩, ⟨by first | decide | omega, by first | decide | omega⟩, ⟨by first | decide | omega, by first | decide | omega⟩, ⟨by first | decide | omega, by first | decide | omega⟩, ⟨by first | decide | omega, by first | decide | omega⟩, ⟨by first | decide | omega, by first | decide | omega⟩⟩) hS (hw_AWi G0 (by decide)) dX12_reads_20 (fun H locs hH vm oq hz hS => ?_)
  refine lv_aload_n hx hb dX12_reads_23 rfl (lv_at hl 0 rfl) ?_
  refine lv_aload_n hx hb dX12_reads_24 rfl (lv_at hl 0 rfl) ?_
  refine hw_get hx hb fg_145_11 hK vm rfl dX12_reads_25 ?_
  refine hw_put (v := .int lo_m) (fs' := hw_LM rm ud_m ky_m lo_m wk_m dk_m ln_m sm_m fi_m 0 ky_m lo_m rw_m 0 p1) hx hb fp_166_11 hK hH vm (Nat.le_of_ble_eq_true rfl) rfl rfl rfl (fun _ => by rw [G0]; exact ⟨rm, ud_m, ky_m, lo_m, wk_m, dk_m, ln_m, sm_m, fi_m, 0, ky_m, lo_m, rw_m, 0, p1, rfl, Rm, ⟨by first | decide | omega, by first | decide | omega⟩, ⟨by first | decide | omega, by first | decide | omega⟩, ⟨by first | decide | omega, by first | decide | omega⟩, ⟨by first | decide | omega, by first | decide | omega⟩, ⟨by first | decide | omega, by first | decide | omega⟩, ⟨by first | decide | omega, by first | decide | omega⟩, ⟨by first | decide | omega, by first | decide | omega⟩, ⟨by first | decide | omega, by first | decide | omega⟩, ⟨by first | decide | omega, by first | decide | omega⟩, ⟨by first | decide | omega, by first | decide | omega⟩, ⟨by first | decide | omega, by first | decide | omega⟩, ⟨by first | decide | omega, by first | decide | omega⟩⟩) hS (hw_AWi G0 (by decide)) dX12_reads_28 (fun H locs hH vm oq hz hS => ?_)
  refine lv_aload_n hx hb dX12_reads_31 rfl (lv_at hl 0 rfl) ?_
  refine lv_aload_n hx hb dX12_reads_32 rfl (lv_at hl 0 rfl) ?_
  refine hw_get hx hb fg_148_11 hK vm rfl dX12_reads_33 ?_
  refine hw_put (v := .int wk_m) (fs' := hw_LM rm ud_m ky_m lo_m wk_m dk_m ln_m sm_m fi_m 0 ky_m lo_m wk_m 0 p1) hx hb fp_169_11 hK hH vm (Nat.le_of_ble_eq_true rfl) rfl rfl rfl (fun _ => by rw [G0]; exact ⟨rm, ud_m, ky_m, lo_m, wk_m, dk_m, ln_m, sm_m, fi_m, 0, ky_m, lo_m, wk_m, 0, p1, rfl, Rm, ⟨by first | decide | omega, by first | decide | omega⟩, ⟨by first | decide | omega, by first | decide | omega⟩, ⟨by first | decide | omega, by first | decide | omega⟩, ⟨by first | decide | omega, by first | decide | omega⟩, ⟨by first | decide | omega, by first | decide | omega⟩, ⟨by first | decide | omega, by first | decide | omega⟩, ⟨by first | decide | omega, by first | decide | omega⟩, ⟨by first | decide | omega, by first | decide | omega⟩, ⟨by first | decide | omega, by first | decide | omega⟩, ⟨by first | decide | omega, by first | decide | omega⟩, ⟨by first | decide | omega, by first | decide | omega⟩, ⟨by first | decide | omega, by first | decide | omega⟩⟩) hS (hw_AWi G0 (by decide)) dX12_reads_36 (fun H locs hH vm oq hz hS => ?_)
  refine lv_aload_n hx hb dX12_reads_39 rfl (lv_at hl 0 rfl) ?_
  refine hw_cM0 (va_runV (As := []) (rest := []) ⟨hx, hb, hml, hown, hts⟩ (k_X12_nextToken l D G h0 _ rm ud_m ky_m lo_m wk_m dk_m ln_m sm_m fi_m 0 ky_m lo_m wk_m 0 p1 G0 Rm ⟨by first | decide | omega, by first | decide | omega⟩ ⟨by first | decide | omega, by first | decide | omega⟩ ⟨by first | decide | omega, by first | decide | omega⟩ ⟨by first | decide | omega, by first | decide | omega⟩ ⟨by first | decide | omega, by first | decide | omega⟩ ⟨by first | decide | omega, by first | decide | omega⟩ ⟨by first | decide | omega, by first | decide | omega⟩ ⟨by first | decide | omega, by first | decide | omega⟩ ⟨by first | decide | omega, by first | decide | omega⟩ ⟨by first | decide | omega, by first | decide | omega⟩ ⟨by first | decide | omega, by first | decide | omega⟩ ⟨by first | decide | omega, by first | decide | omega⟩) (cwV 0 hts gX12_reads_X12_nextToken rfl rfl rfl (by decide +kernel) ⟨Nat.le_of_ble_eq_true rfl, Nat.le_of_ble_eq_true rfl⟩) (hw_pV (hw_rc (q := (RX12, TX12, 45)) hK vm rfl) hH hK hST hS (by decide) (fun _ h => Or.inl h) vm) rfl rfl hl.1 rfl (lv_room (Nat.le_of_ble_eq_true rfl)) dX12_reads_40 ⟨Nat.le_of_ble_eq_true rfl, Nat.le_of_ble_eq_true rfl⟩) hS (hw_AWsub (by decide) (fun _ _ => rfl) hS.1) (fun v H locs hp hz hk hS => ?_)
  have l1 : (0 : Int32).toInt = 0 := rfl
  obtain ⟨x2, x3, rfl, hH, v4, g5, g6, q7, q8, q9⟩ := hp
  refine lv_aload_n hx hb dX12_reads_43 rfl (lv_at hl 0 rfl) ?_
  refine hw_cM0 (va_runV (As := []) (rest := []) ⟨hx, hb, hml, hown, hts⟩ (k_X12_readsClause l D G h0 _ rm ud_m ky_m lo_m wk_m dk_m ln_m sm_m x2 x3 ky_m lo_m wk_m 0 p1 G0 Rm ⟨by first | decide | omega, by first | decide | omega⟩ ⟨by first | decide | omega, by first | decide | omega⟩ ⟨by first | decide | omega, by first | decide | omega⟩ ⟨by first | decide | omega, by first | decide | omega⟩ ⟨by first | decide | omega, by first | decide | omega⟩ ⟨by first | decide | omega, by first | decide | omega⟩ ⟨by first | decide | omega, by first | decide | omega⟩ ⟨by first | decide | omega, by first | decide | omega⟩ ⟨by first | decide | omega, by first | decide | omega⟩ ⟨by first | decide | omega, by first | decide | omega⟩ ⟨by first | decide | omega, by first | decide | omega⟩ ⟨by first | decide | omega, by first | decide | omega⟩ (by first | assumption | decide | omega) (by first | assumption | decide | omega) (by first | assumption | decide | omega) (by first | assumption | decide | omega) (by first | assumption | decide | omega)) (cwV 0 hts gX12_reads_X12_readsClause rfl rfl rfl (by decide +kernel) ⟨Nat.le_of_ble_eq_true rfl, Nat.le_of_ble_eq_true rfl⟩) (hw_pV (hw_rc (q := (RX12, TX12, 45)) hK v4 rfl) hH hK hST hS (by decide) (fun _ h => Or.inl h) v4) rfl rfl hl.1 rfl (lv_room (Nat.le_of_ble_eq_true rfl)) dX12_reads_44 ⟨Nat.le_of_ble_eq_true rfl, Nat.le_of_ble_eq_true rfl⟩) hS (hw_AWsub (by decide) (fun _ _ => rfl) hS.1) (fun v H locs hp hz hk hS => ?_)
  rcases hp with ⟨x10, x11, x12, x13, x14, x15, x16, x17, x18, rfl, hH, v19, g20, g21, g22, g23, g24, g25, g26, g27, q28, q29, q30, q31, q32⟩ | ⟨x33, x34, x35, x36, x37, x38, x39, x40, x41, rfl, hH, v42, g43, g44, g45, g46, g47, g48, g49, g50, q51, q52, q53, q54, q55, q56⟩
  · refine lv_istore_n (lv' := [(2, .int 0), (0, .ref h0), (1, .int p1)]) hx hb dX12_reads_47 rfl hl (by decide) rfl (fun ls hl => ?_)
    refine lv_aload_n hx hb dX12_reads_48 rfl (lv_at hl 1 rfl) ?_
    refine lv_iconst (v := 1) hx hb dX12_reads_49 (by decide) ?_
    refine hw_put (v := .int 1) (fs' := hw_LM rm ud_m x15 x16 x17 x18 ln_m sm_m x10 x11 x12 x13 x14 1 p1) hx hb fp_195_11 hK hH v19 (Nat.le_of_ble_eq_true rfl) rfl rfl rfl (fun _ => by rw [G0]; exact ⟨rm, ud_m, x15, x16, x17, x18, ln_m, sm_m, x10, x11, x12, x13, x14, 1, p1, rfl, Rm, ⟨by first | decide | omega, by first | decide | omega⟩, ⟨by first | decide | omega, by first | decide | omega⟩, ⟨by first | decide | omega, by first | decide | omega⟩, ⟨by first | decide | omega, by first | decide | omega⟩, ⟨by first | decide | omega, by first | decide | omega⟩, ⟨by first | decide | omega, by first | decide | omega⟩, ⟨by first | decide | omega, by first | decide | omega⟩, ⟨by first | decide | omega, by first | decide | omega⟩, ⟨by first | decide | omega, by first | decide | omega⟩, ⟨by first | decide | omega, by first | decide | omega⟩, ⟨by first | decide | omega, by first | decide | omega⟩, ⟨by first | decide | omega, by first | decide | omega⟩⟩) hS (hw_AWi G0 (by decide)) dX12_reads_50 (fun H locs hH v19 oq hz hS => ?_)
    have L53 : ∀ (n77 : Nat) (y2_57 : Int32) (ky_58 : Int32) (lo_59 : Int32) (wk_60 : Int32) (dk_61 : Int32) (fi_62 : Int32) (be_63 : Int32) (rk_64 : Int32) (rl_65 : Int32) (rw_66 : Int32) (cl_67 : Int32) (hm : ((20 - cl_67.toInt) * 2 + y2_57.toInt).toNat < n77) (g68 : 0 ≤ y2_57.toInt ∧ y2_57.toInt ≤ 1) (g69 : 0 ≤ fi_62.toInt ∧ fi_62.toInt ≤ 200) (g70 : 0 ≤ be_63.toInt ∧ be_63.toInt ≤ 200) (g71 : 0 ≤ rk_64.toInt ∧ rk_64.toInt ≤ 7) (g72 : 0 ≤ rl_65.toInt ∧ rl_65.toInt ≤ 7) (g73 : 0 ≤ rw_66.toInt ∧ rw_66.toInt ≤ 3) (g74 : 0 ≤ ky_58.toInt ∧ ky_58.toInt ≤ 7) (g75 : 0 ≤ lo_59.toInt ∧ lo_59.toInt ≤ 7) (g76 : 0 ≤ wk_60.toInt ∧ wk_60.toInt ≤ 3) (inv53_0 : fi_62.toInt ≤ ln_m.toInt) (inv53_1 : be_63.toInt ≤ ln_m.toInt) (inv53_2 : p1.toInt = 1 → ky_58.toInt = rk_64.toInt) (inv53_3 : p1.toInt = 1 → lo_59.toInt = rl_65.toInt) (inv53_4 : p1.toInt = 1 → wk_60.toInt = rw_66.toInt) (inv53_5 : 1 ≤ cl_67.toInt ∧ cl_67.toInt ≤ 20) (inv53_6 : y2_57.toInt = 1 → 0 < ln_m.toInt) (H : Heap) (locs : List Loc) (hH : hw_HT D G H) (v19 : va_at D.1 vwCl (h0, .inr (11, hw_LM rm ud_m ky_58 lo_59 wk_60 dk_61 ln_m sm_m fi_62 be_63 rk_64 rl_65 rw_66 cl_67 p1)) H) (hS : va_S (hw_AW G [9, 44, 45, 46, 48, 49, 50, 51, 53, 67] s.heap.size) s.heap H locs) (ls : Array Slot) (hl : lv_has ls 3 [(2, .int y2_57), (0, .ref h0), (1, .int p1)]), W p l e ({ frames := 6, cells := 0, slots := 0, locals := 131 } : Room) s m args below meth c H locs 0 0 QQ (F0 m 53 ls []) := by
      intro n77
      induction n77 with
      | zero => intro y2_57 ky_58 lo_59 wk_60 dk_61 fi_62 be_63 rk_64 rl_65 rw_66 cl_67 hm; exact absurd hm (Nat.not_lt_zero _)
      | succ n77 ih53 =>
        intro y2_57 ky_58 lo_59 wk_60 dk_61 fi_62 be_63 rk_64 rl_65 rw_66 cl_67 hm g68 g69 g70 g71 g72 g73 g74 g75 g76 inv53_0 inv53_1 inv53_2 inv53_3 inv53_4 inv53_5 inv53_6 H locs hH v19 hS ls hl
        refine lv_iload_n hx hb dX12_reads_53 rfl (lv_at hl 0 rfl) ?_
        refine lv_if_eq (tgt := 123) hx hb dX12_reads_54 (by decide) (fun c78 => ?_) (fun c78 => ?_)
        · have b79 : y2_57.toInt = 0 := hw_ieq c78
          refine lv_iload_n hx hb dX12_reads_123 rfl (lv_at hl 0 rfl) ?_
          rcases (hw_z01 (x := y2_57) (by omega)) with w80 | w80
          · have b81 : y2_57.toInt = 0 := hw_ieq w80
            rw [w80]
            exact hw_iretM (v := 0) hx hb hr hlocks hQ hS rfl (Or.inl ⟨fi_62, be_63, rk_64, rl_65, rw_66, ky_58, lo_59, wk_60, dk_61, p1, cl_67, rfl, hH, v19, ⟨by first | decide | omega, by first | decide | omega⟩, ⟨by first | decide | omega, by first | decide | omega⟩, ⟨by first | decide | omega, by first | decide | omega⟩, ⟨by first | decide | omega, by first | decide | omega⟩, ⟨by first | decide | omega, by first | decide | omega⟩, ⟨by first | decide | omega, by first | decide | omega⟩, ⟨by first | decide | omega, by first | decide | omega⟩, ⟨by first | decide | omega, by first | decide | omega⟩, ⟨by first | decide | omega, by first | decide | omega⟩, (by first | rfl | trivial | assumption | omega | (intros; first | rfl | assumption | omega | (exfalso; omega)))⟩) dX12_reads_124
          · have b82 : y2_57.toInt = 1 := hw_ieq w80
            rw [w80]
            exact hw_iretM (v := 1) hx hb hr hlocks hQ hS rfl (Or.inr (⟨fi_62, be_63, rk_64, rl_65, rw_66, ky_58, lo_59, wk_60, dk_61, p1, cl_67, rfl, hH, v19, ⟨by first | decide | omega, by first | decide | omega⟩, ⟨by first | decide | omega, by first | decide | omega⟩, ⟨by first | decide | omega, by first | decide | omega⟩, ⟨by first | decide | omega, by first | decide | omega⟩, ⟨by first | decide | omega, by first | decide | omega⟩, ⟨by first | decide | omega, by first | decide | omega⟩, ⟨by first | decide | omega, by first | decide | omega⟩, ⟨by first | decide | omega, by first | decide | omega⟩, ⟨by first | decide | omega, by first | decide | omega⟩, (by first | rfl | trivial | assumption | omega | (intros; first | rfl | assumption | omega | (exfalso; omega))), (by first | rfl | trivial | assumption | omega | (intros; first | rfl | assumption | omega | (exfalso; omega)))⟩)) dX12_reads_124
        · have b83 : y2_57.toInt ≠ 0 := hw_ine c78
          refine lv_aload_n hx hb dX12_reads_57 rfl (lv_at hl 1 rfl) ?_
          refine hw_get hx hb fg_129_11 hK v19 rfl dX12_reads_58 ?_
          refine lv_aload_n hx hb dX12_reads_61 rfl (lv_at hl 1 rfl) ?_
          refine hw_get hx hb fg_115_11 hK v19 rfl dX12_reads_62 ?_
          refine lv_icmp_ge (tgt := 123) hx hb dX12_reads_65 (by decide) (fun c84 => ?_) (fun c84 => ?_)
          · have b85 : ln_m.toInt ≤ fi_62.toInt := hw_ile c84
            refine lv_iload_n hx hb dX12_reads_123 rfl (lv_at hl 0 rfl) ?_
            rcases (hw_z01 (x := y2_57) (by omega)) with w86 | w86
            · have b87 : y2_57.toInt = 0 := hw_ieq w86
              rw [w86]
              exact hw_iretM (v := 0) hx hb hr hlocks hQ hS rfl (Or.inl ⟨fi_62, be_63, rk_64, rl_65, rw_66, ky_58, lo_59, wk_60, dk_61, p1, cl_67, rfl, hH, v19, ⟨by first | decide | omega, by first | decide | omega⟩, ⟨by first | decide | omega, by first | decide | omega⟩, ⟨by first | decide | omega, by first | decide | omega⟩, ⟨by first | decide | omega, by first | decide | omega⟩, ⟨by first | decide | omega, by first | decide | omega⟩, ⟨by first | decide | omega, by first | decide | omega⟩, ⟨by first | decide | omega, by first | decide | omega⟩, ⟨by first | decide | omega, by first | decide | omega⟩, ⟨by first | decide | omega, by first | decide | omega⟩, (by first | rfl | trivial | assumption | omega | (intros; first | rfl | assumption | omega | (exfalso; omega)))⟩) dX12_reads_124
            · have b88 : y2_57.toInt = 1 := hw_ieq w86
              rw [w86]
              exact hw_iretM (v := 1) hx hb hr hlocks hQ hS rfl (Or.inr (⟨fi_62, be_63, rk_64, rl_65, rw_66, ky_58, lo_59, wk_60, dk_61, p1, cl_67, rfl, hH, v19, ⟨by first | decide | omega, by first | decide | omega⟩, ⟨by first | decide | omega, by first | decide | omega⟩, ⟨by first | decide | omega, by first | decide | omega⟩, ⟨by first | decide | omega, by first | decide | omega⟩, ⟨by first | decide | omega, by first | decide | omega⟩, ⟨by first | decide | omega, by first | decide | omega⟩, ⟨by first | decide | omega, by first | decide | omega⟩, ⟨by first | decide | omega, by first | decide | omega⟩, ⟨by first | decide | omega, by first | decide | omega⟩, (by first | rfl | trivial | assumption | omega | (intros; first | rfl | assumption | omega | (exfalso; omega))), (by first | rfl | trivial | assumption | omega | (intros; first | rfl | assumption | omega | (exfalso; omega)))⟩)) dX12_reads_124
          · have b89 : fi_62.toInt < ln_m.toInt := hw_inle c84
            refine lv_aload_n hx hb dX12_reads_68 rfl (lv_at hl 1 rfl) ?_
            refine hw_get hx hb fg_195_11 hK v19 rfl dX12_reads_69 ?_
            refine lv_bipush (v := 20) hx hb dX12_reads_72 (by decide) ?_
            refine lv_icmp_ge (tgt := 95) hx hb dX12_reads_74 (by decide) (fun c90 => ?_) (fun c90 => ?_)
            · have b91 : 20 ≤ cl_67.toInt := hw_ile c90
              refine lv_iconst (v := 0) hx hb dX12_reads_95 (by decide) ?_
              refine lv_istore_n (lv' := [(2, .int 0), (0, .ref h0), (1, .int p1)]) hx hb dX12_reads_96 rfl hl (by decide) rfl (fun ls hl => ?_)
              refine lv_iload_n hx hb dX12_reads_97 rfl (lv_at hl 0 rfl) ?_
              refine lv_if_eq (tgt := 53) hx hb dX12_reads_98 (by decide) (fun c92 => ?_) (fun c92 => ?_)
              · exact ih53 0 ky_58 lo_59 wk_60 dk_61 fi_62 be_63 rk_64 rl_65 rw_66 cl_67 (by first | omega | omega) ⟨by first | decide | omega, by first | decide | omega⟩ ⟨by first | decide | omega, by first | decide | omega⟩ ⟨by first | decide | omega, by first | decide | omega⟩ ⟨by first | decide | omega, by first | decide | omega⟩ ⟨by first | decide | omega, by first | decide | omega⟩ ⟨by first | decide | omega, by first | decide | omega⟩ ⟨by first | decide | omega, by first | decide | omega⟩ ⟨by first | decide | omega, by first | decide | omega⟩ ⟨by first | decide | omega, by first | decide | omega⟩ (by first | assumption | omega | decide | rfl | (intros; first | rfl | assumption | omega)) (by first | assumption | omega | decide | rfl | (intros; first | rfl | assumption | omega)) (by first | assumption | omega | decide | rfl | (intros; first | rfl | assumption | omega)) (by first | assumption | omega | decide | rfl | (intros; first | rfl | assumption | omega)) (by first | assumption | omega | decide | rfl | (intros; first | rfl | assumption | omega)) (by first | assumption | omega | decide | rfl | (intros; first | rfl | assumption | omega)) (by first | assumption | omega | decide | rfl | (intros; first | rfl | assumption | omega)) _ _ hH v19 hS _ (lv_sub hl [0, 1, 2] rfl)
              · exact absurd c92 (by decide)
            · have b93 : cl_67.toInt < 20 := hw_inle c90
              refine lv_aload_n hx hb dX12_reads_77 rfl (lv_at hl 1 rfl) ?_
              refine hw_get hx hb fg_45_11 hK v19 rfl dX12_reads_78 ?_
              refine lv_aload_n hx hb dX12_reads_81 rfl (lv_at hl 1 rfl) ?_
              refine hw_get hx hb fg_129_11 hK v19 rfl dX12_reads_82 ?_
              obtain ⟨f94, v95⟩ := hH.a55 (hw_RM_15 Rm)
              refine hw_iald hx hb hK v95 (hw_in (by omega) (by omega)) dX12_reads_85 ?_
              refine lv_topi (fun x97 e98 => ?_)
              refine lv_bipush (v := 59) hx hb dX12_reads_86 (by decide) ?_
              refine lv_icmp_ne (tgt := 95) hx hb dX12_reads_88 (by decide) (fun c99 => ?_) (fun c99 => ?_)
              · have b100 : x97.toInt ≠ 59 := hw_ine c99
                refine lv_iconst (v := 0) hx hb dX12_reads_95 (by decide) ?_
                refine lv_istore_n (lv' := [(2, .int 0), (0, .ref h0), (1, .int p1)]) hx hb dX12_reads_96 rfl hl (by decide) rfl (fun ls hl => ?_)
                refine lv_iload_n hx hb dX12_reads_97 rfl (lv_at hl 0 rfl) ?_
                refine lv_if_eq (tgt := 53) hx hb dX12_reads_98 (by decide) (fun c101 => ?_) (fun c101 => ?_)
                · exact ih53 0 ky_58 lo_59 wk_60 dk_61 fi_62 be_63 rk_64 rl_65 rw_66 cl_67 (by first | omega | omega) ⟨by first | decide | omega, by first | decide | omega⟩ ⟨by first | decide | omega, by first | decide | omega⟩ ⟨by first | decide | omega, by first | decide | omega⟩ ⟨by first | decide | omega, by first | decide | omega⟩ ⟨by first | decide | omega, by first | decide | omega⟩ ⟨by first | decide | omega, by first | decide | omega⟩ ⟨by first | decide | omega, by first | decide | omega⟩ ⟨by first | decide | omega, by first | decide | omega⟩ ⟨by first | decide | omega, by first | decide | omega⟩ (by first | assumption | omega | decide | rfl | (intros; first | rfl | assumption | omega)) (by first | assumption | omega | decide | rfl | (intros; first | rfl | assumption | omega)) (by first | assumption | omega | decide | rfl | (intros; first | rfl | assumption | omega)) (by first | assumption | omega | decide | rfl | (intros; first | rfl | assumption | omega)) (by first | assumption | omega | decide | rfl | (intros; first | rfl | assumption | omega)) (by first | assumption | omega | decide | rfl | (intros; first | rfl | assumption | omega)) (by first | assumption | omega | decide | rfl | (intros; first | rfl | assumption | omega)) _ _ hH v19 hS _ (lv_sub hl [0, 1, 2] rfl)
                · exact absurd c101 (by decide)
              · have b102 : x97.toInt = 59 := hw_ieq c99
                refine lv_iconst (v := 1) hx hb dX12_reads_91 (by decide) ?_
                refine lv_goto (tgt := 96) hx hb dX12_reads_92 (by decide) ?_
                refine lv_istore_n (lv' := [(2, .int 1), (0, .ref h0), (1, .int p1)]) hx hb dX12_reads_96 rfl hl (by decide) rfl (fun ls hl => ?_)
                refine lv_iload_n hx hb dX12_reads_97 rfl (lv_at hl 0 rfl) ?_
                refine lv_if_eq (tgt := 53) hx hb dX12_reads_98 (by decide) (fun c103 => ?_) (fun c103 => ?_)
                · exact absurd c103 (by decide)
                · refine lv_aload_n hx hb dX12_reads_101 rfl (lv_at hl 1 rfl) ?_
                  refine hw_cM0 (va_runV (As := []) (rest := []) ⟨hx, hb, hml, hown, hts⟩ (k_X12_nextToken l D G h0 _ rm ud_m ky_58 lo_59 wk_60 dk_61 ln_m sm_m fi_62 be_63 rk_64 rl_65 rw_66 cl_67 p1 G0 Rm ⟨by first | decide | omega, by first | decide | omega⟩ ⟨by first | decide | omega, by first | decide | omega⟩ ⟨by first | decide | omega, by first | decide | omega⟩ ⟨by first | decide | omega, by first | decide | omega⟩ ⟨by first | decide | omega, by first | decide | omega⟩ ⟨by first | decide | omega, by first | decide | omega⟩ ⟨by first | decide | omega, by first | decide | omega⟩ ⟨by first | decide | omega, by first | decide | omega⟩ ⟨by first | decide | omega, by first | decide | omega⟩ ⟨by first | decide | omega, by first | decide | omega⟩ ⟨by first | decide | omega, by first | decide | omega⟩ ⟨by first | decide | omega, by first | decide | omega⟩) (cwV 0 hts gX12_reads_X12_nextToken rfl rfl rfl (by decide +kernel) ⟨Nat.le_of_ble_eq_true rfl, Nat.le_of_ble_eq_true rfl⟩) (hw_pV (hw_rc (q := (RX12, TX12, 45)) hK v19 rfl) hH hK hST hS (by decide) (fun _ h => Or.inl h) v19) rfl rfl hl.1 rfl (lv_room (Nat.le_of_ble_eq_true rfl)) dX12_reads_102 ⟨Nat.le_of_ble_eq_true rfl, Nat.le_of_ble_eq_true rfl⟩) hS (hw_AWsub (by decide) (fun _ _ => rfl) hS.1) (fun v H locs hp hz hk hS => ?_)
                  obtain ⟨x104, x105, rfl, hH, v106, g107, g108, q109, q110, q111⟩ := hp
                  refine lv_aload_n hx hb dX12_reads_105 rfl (lv_at hl 1 rfl) ?_
                  refine hw_cM0 (va_runV (As := []) (rest := []) ⟨hx, hb, hml, hown, hts⟩ (k_X12_readsClause l D G h0 _ rm ud_m ky_58 lo_59 wk_60 dk_61 ln_m sm_m x104 x105 rk_64 rl_65 rw_66 cl_67 p1 G0 Rm ⟨by first | decide | omega, by first | decide | omega⟩ ⟨by first | decide | omega, by first | decide | omega⟩ ⟨by first | decide | omega, by first | decide | omega⟩ ⟨by first | decide | omega, by first | decide | omega⟩ ⟨by first | decide | omega, by first | decide | omega⟩ ⟨by first | decide | omega, by first | decide | omega⟩ ⟨by first | decide | omega, by first | decide | omega⟩ ⟨by first | decide | omega, by first | decide | omega⟩ ⟨by first | decide | omega, by first | decide | omega⟩ ⟨by first | decide | omega, by first | decide | omega⟩ ⟨by first | decide | omega, by first | decide | omega⟩ ⟨by first | decide | omega, by first | decide | omega⟩ (by first | assumption | decide | omega) (by first | assumption | decide | omega) (by first | assumption | decide | omega) (by first | assumption | decide | omega) (by first | assumption | decide | omega)) (cwV 0 hts gX12_reads_X12_readsClause rfl rfl rfl (by decide +kernel) ⟨Nat.le_of_ble_eq_true rfl, Nat.le_of_ble_eq_true rfl⟩) (hw_pV (hw_rc (q := (RX12, TX12, 45)) hK v106 rfl) hH hK hST hS (by decide) (fun _ h => Or.inl h) v106) rfl rfl hl.1 rfl (lv_room (Nat.le_of_ble_eq_true rfl)) dX12_reads_106 ⟨Nat.le_of_ble_eq_true rfl, Nat.le_of_ble_eq_true rfl⟩) hS (hw_AWsub (by decide) (fun _ _ => rfl) hS.1) (fun v H locs hp hz hk hS => ?_)
                  rcases hp with ⟨x112, x113, x114, x115, x116, x117, x118, x119, x120, rfl, hH, v121, g122, g123, g124, g125, g126, g127, g128, g129, q130, q131, q132, q133, q134⟩ | ⟨x135, x136, x137, x138, x139, x140, x141, x142, x143, rfl, hH, v144, g145, g146, g147, g148, g149, g150, g151, g152, q153, q154, q155, q156, q157, q158⟩
                  · refine lv_istore_n (lv' := [(2, .int 0), (0, .ref h0), (1, .int p1)]) hx hb dX12_reads_109 rfl hl (by decide) rfl (fun ls hl => ?_)
                    refine lv_aload_n hx hb dX12_reads_110 rfl (lv_at hl 1 rfl) ?_
                    refine lv_dup hx hb dX12_reads_111 rfl ?_
                    refine hw_get hx hb fg_195_11 hK v121 rfl dX12_reads_112 ?_
                    refine lv_iconst (v := 1) hx hb dX12_reads_115 (by decide) ?_
                    refine lv_iadd hx hb dX12_reads_116 ?_
                    refine lv_topi (fun x159 e160 => ?_)
                    have rg161 := hw_rng cl_67
                    have t162 : x159.toInt = cl_67.toInt + 1 := by rw [e160]; exact hw_add rfl rfl (by omega) (by omega)
                    refine hw_put (v := .int x159) (fs' := hw_LM rm ud_m x117 x118 x119 x120 ln_m sm_m x112 x113 x114 x115 x116 x159 p1) hx hb fp_195_11 hK hH v121 (Nat.le_of_ble_eq_true rfl) rfl rfl rfl (fun _ => by rw [G0]; exact ⟨rm, ud_m, x117, x118, x119, x120, ln_m, sm_m, x112, x113, x114, x115, x116, x159, p1, rfl, Rm, ⟨by first | decide | omega, by first | decide | omega⟩, ⟨by first | decide | omega, by first | decide | omega⟩, ⟨by first | decide | omega, by first | decide | omega⟩, ⟨by first | decide | omega, by first | decide | omega⟩, ⟨by first | decide | omega, by first | decide | omega⟩, ⟨by first | decide | omega, by first | decide | omega⟩, ⟨by first | decide | omega, by first | decide | omega⟩, ⟨by first | decide | omega, by first | decide | omega⟩, ⟨by first | decide | omega, by first | decide | omega⟩, ⟨by first | decide | omega, by first | decide | omega⟩, ⟨by first | decide | omega, by first | decide | omega⟩, ⟨by first | decide | omega, by first | decide | omega⟩⟩) hS (hw_AWi G0 (by decide)) dX12_reads_117 (fun H locs hH v121 oq hz hS => ?_)
                    refine lv_goto (tgt := 53) hx hb dX12_reads_120 (by decide) ?_
                    exact ih53 0 x117 x118 x119 x120 x112 x113 x114 x115 x116 x159 (by first | omega | omega) ⟨by first | decide | omega, by first | decide | omega⟩ ⟨by first | decide | omega, by first | decide | omega⟩ ⟨by first | decide | omega, by first | decide | omega⟩ ⟨by first | decide | omega, by first | decide | omega⟩ ⟨by first | decide | omega, by first | decide | omega⟩ ⟨by first | decide | omega, by first | decide | omega⟩ ⟨by first | decide | omega, by first | decide | omega⟩ ⟨by first | decide | omega, by first | decide | omega⟩ ⟨by first | decide | omega, by first | decide | omega⟩ (by first | assumption | omega | decide | rfl | (intros; first | rfl | assumption | omega)) (by first | assumption | omega | decide | rfl | (intros; first | rfl | assumption | omega)) (by first | assumption | omega | decide | rfl | (intros; first | rfl | assumption | omega)) (by first | assumption | omega | decide | rfl | (intros; first | rfl | assumption | omega)) (by first | assumption | omega | decide | rfl | (intros; first | rfl | assumption | omega)) (by first | assumption | omega | decide | rfl | (intros; first | rfl | assumption | omega)) (by first | assumption | omega | decide | rfl | (intros; first | rfl | assumption | omega)) _ _ hH v121 hS _ (lv_sub hl [0, 1, 2] rfl)
                  · refine lv_istore_n (lv' := [(2, .int 1), (0, .ref h0), (1, .int p1)]) hx hb dX12_reads_109 rfl hl (by decide) rfl (fun ls hl => ?_)
                    refine lv_aload_n hx hb dX12_reads_110 rfl (lv_at hl 1 rfl) ?_
                    refine lv_dup hx hb dX12_reads_111 rfl ?_
                    refine hw_get hx hb fg_195_11 hK v144 rfl dX12_reads_112 ?_
                    refine lv_iconst (v := 1) hx hb dX12_reads_115 (by decide) ?_
                    refine lv_iadd hx hb dX12_reads_116 ?_
                    refine lv_topi (fun x163 e164 => ?_)
                    have rg165 := hw_rng cl_67
                    have t166 : x163.toInt = cl_67.toInt + 1 := by rw [e164]; exact hw_add rfl rfl (by omega) (by omega)
                    refine hw_put (v := .int x163) (fs' := hw_LM rm ud_m x140 x141 x142 x143 ln_m sm_m x135 x136 x137 x138 x139 x163 p1) hx hb fp_195_11 hK hH v144 (Nat.le_of_ble_eq_true rfl) rfl rfl rfl (fun _ => by rw [G0]; exact ⟨rm, ud_m, x140, x141, x142, x143, ln_m, sm_m, x135, x136, x137, x138, x139, x163, p1, rfl, Rm, ⟨by first | decide | omega, by first | decide | omega⟩, ⟨by first | decide | omega, by first | decide | omega⟩, ⟨by first | decide | omega, by first | decide | omega⟩, ⟨by first | decide | omega, by first | decide | omega⟩, ⟨by first | decide | omega, by first | decide | omega⟩, ⟨by first | decide | omega, by first | decide | omega⟩, ⟨by first | decide | omega, by first | decide | omega⟩, ⟨by first | decide | omega, by first | decide | omega⟩, ⟨by first | decide | omega, by first | decide | omega⟩, ⟨by first | decide | omega, by first | decide | omega⟩, ⟨by first | decide | omega, by first | decide | omega⟩, ⟨by first | decide | omega, by first | decide | omega⟩⟩) hS (hw_AWi G0 (by decide)) dX12_reads_117 (fun H locs hH v144 oq hz hS => ?_)
                    refine lv_goto (tgt := 53) hx hb dX12_reads_120 (by decide) ?_
                    exact ih53 1 x140 x141 x142 x143 x135 x136 x137 x138 x139 x163 (by first | omega | omega) ⟨by first | decide | omega, by first | decide | omega⟩ ⟨by first | decide | omega, by first | decide | omega⟩ ⟨by first | decide | omega, by first | decide | omega⟩ ⟨by first | decide | omega, by first | decide | omega⟩ ⟨by first | decide | omega, by first | decide | omega⟩ ⟨by first | decide | omega, by first | decide | omega⟩ ⟨by first | decide | omega, by first | decide | omega⟩ ⟨by first | decide | omega, by first | decide | omega⟩ ⟨by first | decide | omega, by first | decide | omega⟩ (by first | assumption | omega | decide | rfl | (intros; first | rfl | assumption | omega)) (by first | assumption | omega | decide | rfl | (intros; first | rfl | assumption | omega)) (by first | assumption | omega | decide | rfl | (intros; first | rfl | assumption | omega)) (by first | assumption | omega | decide | rfl | (intros; first | rfl | assumption | omega)) (by first | assumption | omega | decide | rfl | (intros; first | rfl | assumption | omega)) (by first | assumption | omega | decide | rfl | (intros; first | rfl | assumption | omega)) (by first | assumption | omega | decide | rfl | (intros; first | rfl | assumption | omega)) _ _ hH v144 hS _ (lv_sub hl [0, 1, 2] rfl)
    exact L53 _ 0 x15 x16 x17 x18 x10 x11 x12 x13 x14 1 (Nat.lt_succ_self _) ⟨by first | decide | omega, by first | decide | omega⟩ ⟨by first | decide | omega, by first | decide | omega⟩ ⟨by first | decide | omega, by first | decide | omega⟩ ⟨by first | decide | omega, by first | decide | omega⟩ ⟨by first | decide | omega, by first | decide | omega⟩ ⟨by first | decide | omega, by first | decide | omega⟩ ⟨by first | decide | omega, by first | decide | omega⟩ ⟨by first | decide | omega, by first | decide | omega⟩ ⟨by first | decide | omega, by first | decide | omega⟩ (by first | assumption | omega | decide | rfl | (intros; first | rfl | assumption | omega)) (by first | assumption | omega | decide | rfl | (intros; first | rfl | assumption | omega)) (by first | assumption | omega | decide | rfl | (intros; first | rfl | assumption | omega)) (by first | assumption | omega | decide | rfl | (intros; first | rfl | assumption | omega)) (by first | assumption | omega | decide | rfl | (intros; first | rfl | assumption | omega)) (by first | assumption | omega | decide | rfl | (intros; first | rfl | assumption | omega)) (by first | assumption | omega | decide | rfl | (intros; first | rfl | assumption | omega)) _ _ hH v19 hS _ (lv_sub hl [0, 1, 2] rfl)
  · refine lv_istore_n (lv' := [(2, .int 1), (0, .ref h0), (1, .int p1)]) hx hb dX12_reads_47 rfl hl (by decide) rfl (fun ls hl => ?_)
    refine lv_aload_n hx hb dX12_reads_48 rfl (lv_at hl 1 rfl) ?_
    refine lv_iconst (v := 1) hx hb dX12_reads_49 (by decide) ?_
    refine hw_put (v := .int 1) (fs' := hw_LM rm ud_m x38 x39 x40 x41 ln_m sm_m x33 x34 x35 x36 x37 1 p1) hx hb fp_195_11 hK hH v42 (Nat.le_of_ble_eq_true rfl) rfl rfl rfl (fun _ => by rw [G0]; exact ⟨rm, ud_m, x38, x39, x40, x41, ln_m, sm_m, x33, x34, x35, x36, x37, 1, p1, rfl, Rm, ⟨by first | decide | omega, by first | decide | omega⟩, ⟨by first | decide | omega, by first | decide | omega⟩, ⟨by first | decide | omega, by first | decide | omega⟩, ⟨by first | decide | omega, by first | decide | omega⟩, ⟨by first | decide | omega, by first | decide | omega⟩, ⟨by first | decide | omega, by first | decide | omega⟩, ⟨by first | decide | omega, by first | decide | omega⟩, ⟨by first | decide | omega, by first | decide | omega⟩, ⟨by first | decide | omega, by first | decide | omega⟩, ⟨by first | decide | omega, by first | decide | omega⟩, ⟨by first | decide | omega, by first | decide | omega⟩, ⟨by first | decide | omega, by first | decide | omega⟩⟩) hS (hw_AWi G0 (by decide)) dX12_reads_50 (fun H locs hH v42 oq hz hS => ?_)
    have L53 : ∀ (n187 : Nat) (y2_167 : Int32) (ky_168 : Int32) (lo_169 : Int32) (wk_170 : Int32) (dk_171 : Int32) (fi_172 : Int32) (be_173 : Int32) (rk_174 : Int32) (rl_175 : Int32) (rw_176 : Int32) (cl_177 : Int32) (hm : ((20 - cl_177.toInt) * 2 + y2_167.toInt).toNat < n187) (g178 : 0 ≤ y2_167.toInt ∧ y2_167.toInt ≤ 1) (g179 : 0 ≤ fi_172.toInt ∧ fi_172.toInt ≤ 200) (g180 : 0 ≤ be_173.toInt ∧ be_173.toInt ≤ 200) (g181 : 0 ≤ rk_174.toInt ∧ rk_174.toInt ≤ 7) (g182 : 0 ≤ rl_175.toInt ∧ rl_175.toInt ≤ 7) (g183 : 0 ≤ rw_176.toInt ∧ rw_176.toInt ≤ 3) (g184 : 0 ≤ ky_168.toInt ∧ ky_168.toInt ≤ 7) (g185 : 0 ≤ lo_169.toInt ∧ lo_169.toInt ≤ 7) (g186 : 0 ≤ wk_170.toInt ∧ wk_170.toInt ≤ 3) (inv53_0 : fi_172.toInt ≤ ln_m.toInt) (inv53_1 : be_173.toInt ≤ ln_m.toInt) (inv53_2 : p1.toInt = 1 → ky_168.toInt = rk_174.toInt) (inv53_3 : p1.toInt = 1 → lo_169.toInt = rl_175.toInt) (inv53_4 : p1.toInt = 1 → wk_170.toInt = rw_176.toInt) (inv53_5 : 1 ≤ cl_177.toInt ∧ cl_177.toInt ≤ 20) (inv53_6 : y2_167.toInt = 1 → 0 < ln_m.toInt) (H : Heap) (locs : List Loc) (hH : hw_HT D G H) (v42 : va_at D.1 vwCl (h0, .inr (11, hw_LM rm ud_m ky_168 lo_169 wk_170 dk_171 ln_m sm_m fi_172 be_173 rk_174 rl_175 rw_176 cl_177 p1)) H) (hS : va_S (hw_AW G [9, 44, 45, 46, 48, 49, 50, 51, 53, 67] s.heap.size) s.heap H locs) (ls : Array Slot) (hl : lv_has ls 3 [(2, .int y2_167), (0, .ref h0), (1, .int p1)]), W p l e ({ frames := 6, cells := 0, slots := 0, locals := 131 } : Room) s m args below meth c H locs 0 0 QQ (F0 m 53 ls []) := by
      intro n187
      induction n187 with
      | zero => intro y2_167 ky_168 lo_169 wk_170 dk_171 fi_172 be_173 rk_174 rl_175 rw_176 cl_177 hm; exact absurd hm (Nat.not_lt_zero _)
      | succ n187 ih53 =>
        intro y2_167 ky_168 lo_169 wk_170 dk_171 fi_172 be_173 rk_174 rl_175 rw_176 cl_177 hm g178 g179 g180 g181 g182 g183 g184 g185 g186 inv53_0 inv53_1 inv53_2 inv53_3 inv53_4 inv53_5 inv53_6 H locs hH v42 hS ls hl
        refine lv_iload_n hx hb dX12_reads_53 rfl (lv_at hl 0 rfl) ?_
        refine lv_if_eq (tgt := 123) hx hb dX12_reads_54 (by decide) (fun c188 => ?_) (fun c188 => ?_)
        · have b189 : y2_167.toInt = 0 := hw_ieq c188
          refine lv_iload_n hx hb dX12_reads_123 rfl (lv_at hl 0 rfl) ?_
          rcases (hw_z01 (x := y2_167) (by omega)) with w190 | w190
          · have b191 : y2_167.toInt = 0 := hw_ieq w190
            rw [w190]
            exact hw_iretM (v := 0) hx hb hr hlocks hQ hS rfl (Or.inl ⟨fi_172, be_173, rk_174, rl_175, rw_176, ky_168, lo_169, wk_170, dk_171, p1, cl_177, rfl, hH, v42, ⟨by first | decide | omega, by first | decide | omega⟩, ⟨by first | decide | omega, by first | decide | omega⟩, ⟨by first | decide | omega, by first | decide | omega⟩, ⟨by first | decide | omega, by first | decide | omega⟩, ⟨by first | decide | omega, by first | decide | omega⟩, ⟨by first | decide | omega, by first | decide | omega⟩, ⟨by first | decide | omega, by first | decide | omega⟩, ⟨by first | decide | omega, by first | decide | omega⟩, ⟨by first | decide | omega, by first | decide | omega⟩, (by first | rfl | trivial | assumption | omega | (intros; first | rfl | assumption | omega | (exfalso; omega)))⟩) dX12_reads_124
          · have b192 : y2_167.toInt = 1 := hw_ieq w190
            rw [w190]
            exact hw_iretM (v := 1) hx hb hr hlocks hQ hS rfl (Or.inr (⟨fi_172, be_173, rk_174, rl_175, rw_176, ky_168, lo_169, wk_170, dk_171, p1, cl_177, rfl, hH, v42, ⟨by first | decide | omega, by first | decide | omega⟩, ⟨by first | decide | omega, by first | decide | omega⟩, ⟨by first | decide | omega, by first | decide | omega⟩, ⟨by first | decide | omega, by first | decide | omega⟩, ⟨by first | decide | omega, by first | decide | omega⟩, ⟨by first | decide | omega, by first | decide | omega⟩, ⟨by first | decide | omega, by first | decide | omega⟩, ⟨by first | decide | omega, by first | decide | omega⟩, ⟨by first | decide | omega, by first | decide | omega⟩, (by first | rfl | trivial | assumption | omega | (intros; first | rfl | assumption | omega | (exfalso; omega))), (by first | rfl | trivial | assumption | omega | (intros; first | rfl | assumption | omega | (exfalso; omega)))⟩)) dX12_reads_124
        · have b193 : y2_167.toInt ≠ 0 := hw_ine c188
          refine lv_aload_n hx hb dX12_reads_57 rfl (lv_at hl 1 rfl) ?_
          refine hw_get hx hb fg_129_11 hK v42 rfl dX12_reads_58 ?_
          refine lv_aload_n hx hb dX12_reads_61 rfl (lv_at hl 1 rfl) ?_
          refine hw_get hx hb fg_115_11 hK v42 rfl dX12_reads_62 ?_
          refine lv_icmp_ge (tgt := 123) hx hb dX12_reads_65 (by decide) (fun c194 => ?_) (fun c194 => ?_)
          · have b195 : ln_m.toInt ≤ fi_172.toInt := hw_ile c194
            refine lv_iload_n hx hb dX12_reads_123 rfl (lv_at hl 0 rfl) ?_
            rcases (hw_z01 (x := y2_167) (by omega)) with w196 | w196
            · have b197 : y2_167.toInt = 0 := hw_ieq w196
              rw [w196]
              exact hw_iretM (v := 0) hx hb hr hlocks hQ hS rfl (Or.inl ⟨fi_172, be_173, rk_174, rl_175, rw_176, ky_168, lo_169, wk_170, dk_171, p1, cl_177, rfl, hH, v42, ⟨by first | decide | omega, by first | decide | omega⟩, ⟨by first | decide | omega, by first | decide | omega⟩, ⟨by first | decide | omega, by first | decide | omega⟩, ⟨by first | decide | omega, by first | decide | omega⟩, ⟨by first | decide | omega, by first | decide | omega⟩, ⟨by first | decide | omega, by first | decide | omega⟩, ⟨by first | decide | omega, by first | decide | omega⟩, ⟨by first | decide | omega, by first | decide | omega⟩, ⟨by first | decide | omega, by first | decide | omega⟩, (by first | rfl | trivial | assumption | omega | (intros; first | rfl | assumption | omega | (exfalso; omega)))⟩) dX12_reads_124
            · have b198 : y2_167.toInt = 1 := hw_ieq w196
              rw [w196]
              exact hw_iretM (v := 1) hx hb hr hlocks hQ hS rfl (Or.inr (⟨fi_172, be_173, rk_174, rl_175, rw_176, ky_168, lo_169, wk_170, dk_171, p1, cl_177, rfl, hH, v42, ⟨by first | decide | omega, by first | decide | omega⟩, ⟨by first | decide | omega, by first | decide | omega⟩, ⟨by first | decide | omega, by first | decide | omega⟩, ⟨by first | decide | omega, by first | decide | omega⟩, ⟨by first | decide | omega, by first | decide | omega⟩, ⟨by first | decide | omega, by first | decide | omega⟩, ⟨by first | decide | omega, by first | decide | omega⟩, ⟨by first | decide | omega, by first | decide | omega⟩, ⟨by first | decide | omega, by first | decide | omega⟩, (by first | rfl | trivial | assumption | omega | (intros; first | rfl | assumption | omega | (exfalso; omega))), (by first | rfl | trivial | assumption | omega | (intros; first | rfl | assumption | omega | (exfalso; omega)))⟩)) dX12_reads_124
          · have b199 : fi_172.toInt < ln_m.toInt := hw_inle c194
            refine lv_aload_n hx hb dX12_reads_68 rfl (lv_at hl 1 rfl) ?_
            refine hw_get hx hb fg_195_11 hK v42 rfl dX12_reads_69 ?_
            refine lv_bipush (v := 20) hx hb dX12_reads_72 (by decide) ?_
            refine lv_icmp_ge (tgt := 95) hx hb dX12_reads_74 (by decide) (fun c200 => ?_) (fun c200 => ?_)
            · have b201 : 20 ≤ cl_177.toInt := hw_ile c200
              refine lv_iconst (v := 0) hx hb dX12_reads_95 (by decide) ?_
              refine lv_istore_n (lv' := [(2, .int 0), (0, .ref h0), (1, .int p1)]) hx hb dX12_reads_96 rfl hl (by decide) rfl (fun ls hl => ?_)
              refine lv_iload_n hx hb dX12_reads_97 rfl (lv_at hl 0 rfl) ?_
              refine lv_if_eq (tgt := 53) hx hb dX12_reads_98 (by decide) (fun c202 => ?_) (fun c202 => ?_)
              · exact ih53 0 ky_168 lo_169 wk_170 dk_171 fi_172 be_173 rk_174 rl_175 rw_176 cl_177 (by first | omega | omega) ⟨by first | decide | omega, by first | decide | omega⟩ ⟨by first | decide | omega, by first | decide | omega⟩ ⟨by first | decide | omega, by first | decide | omega⟩ ⟨by first | decide | omega, by first | decide | omega⟩ ⟨by first | decide | omega, by first | decide | omega⟩ ⟨by first | decide | omega, by first | decide | omega⟩ ⟨by first | decide | omega, by first | decide | omega⟩ ⟨by first | decide | omega, by first | decide | omega⟩ ⟨by first | decide | omega, by first | decide | omega⟩ (by first | assumption | omega | decide | rfl | (intros; first | rfl | assumption | omega)) (by first | assumption | omega | decide | rfl | (intros; first | rfl | assumption | omega)) (by first | assumption | omega | decide | rfl | (intros; first | rfl | assumption | omega)) (by first | assumption | omega | decide | rfl | (intros; first | rfl | assumption | omega)) (by first | assumption | omega | decide | rfl | (intros; first | rfl | assumption | omega)) (by first | assumption | omega | decide | rfl | (intros; first | rfl | assumption | omega)) (by first | assumption | omega | decide | rfl | (intros; first | rfl | assumption | omega)) _ _ hH v42 hS _ (lv_sub hl [0, 1, 2] rfl)
              · exact absurd c202 (by decide)
            · have b203 : cl_177.toInt < 20 := hw_inle c200
              refine lv_aload_n hx hb dX12_reads_77 rfl (lv_at hl 1 rfl) ?_
              refine hw_get hx hb fg_45_11 hK v42 rfl dX12_reads_78 ?_
              refine lv_aload_n hx hb dX12_reads_81 rfl (lv_at hl 1 rfl) ?_
              refine hw_get hx hb fg_129_11 hK v42 rfl dX12_reads_82 ?_
              obtain ⟨f204, v205⟩ := hH.a55 (hw_RM_15 Rm)
              refine hw_iald hx hb hK v205 (hw_in (by omega) (by omega)) dX12_reads_85 ?_
              refine lv_topi (fun x207 e208 => ?_)
              refine lv_bipush (v := 59) hx hb dX12_reads_86 (by decide) ?_
              refine lv_icmp_ne (tgt := 95) hx hb dX12_reads_88 (by decide) (fun c209 => ?_) (fun c209 => ?_)
              · have b210 : x207.toInt ≠ 59 := hw_ine c209
                refine lv_iconst (v := 0) hx hb dX12_reads_95 (by decide) ?_
                refine lv_istore_n (lv' := [(2, .int 0), (0, .ref h0), (1, .int p1)]) hx hb dX12_reads_96 rfl hl (by decide) rfl (fun ls hl => ?_)
                refine lv_iload_n hx hb dX12_reads_97 rfl (lv_at hl 0 rfl) ?_
                refine lv_if_eq (tgt := 53) hx hb dX12_reads_98 (by decide) (fun c211 => ?_) (fun c211 => ?_)
                · exact ih53 0 ky_168 lo_169 wk_170 dk_171 fi_172 be_173 rk_174 rl_175 rw_176 cl_177 (by first | omega | omega) ⟨by first | decide | omega, by first | decide | omega⟩ ⟨by first | decide | omega, by first | decide | omega⟩ ⟨by first | decide | omega, by first | decide | omega⟩ ⟨by first | decide | omega, by first | decide | omega⟩ ⟨by first | decide | omega, by first | decide | omega⟩ ⟨by first | decide | omega, by first | decide | omega⟩ ⟨by first | decide | omega, by first | decide | omega⟩ ⟨by first | decide | omega, by first | decide | omega⟩ ⟨by first | decide | omega, by first | decide | omega⟩ (by first | assumption | omega | decide | rfl | (intros; first | rfl | assumption | omega)) (by first | assumption | omega | decide | rfl | (intros; first | rfl | assumption | omega)) (by first | assumption | omega | decide | rfl | (intros; first | rfl | assumption | omega)) (by first | assumption | omega | decide | rfl | (intros; first | rfl | assumption | omega)) (by first | assumption | omega | decide | rfl | (intros; first | rfl | assumption | omega)) (by first | assumption | omega | decide | rfl | (intros; first | rfl | assumption | omega)) (by first | assumption | omega | decide | rfl | (intros; first | rfl | assumption | omega)) _ _ hH v42 hS _ (lv_sub hl [0, 1, 2] rfl)
                · exact absurd c211 (by decide)
              · have b212 : x207.toInt = 59 := hw_ieq c209
                refine lv_iconst (v := 1) hx hb dX12_reads_91 (by decide) ?_
                refine lv_goto (tgt := 96) hx hb dX12_reads_92 (by decide) ?_
                refine lv_istore_n (lv' := [(2, .int 1), (0, .ref h0), (1, .int p1)]) hx hb dX12_reads_96 rfl hl (by decide) rfl (fun ls hl => ?_)
                refine lv_iload_n hx hb dX12_reads_97 rfl (lv_at hl 0 rfl) ?_
                refine lv_if_eq (tgt := 53) hx hb dX12_reads_98 (by decide) (fun c213 => ?_) (fun c213 => ?_)
                · exact absurd c213 (by decide)
                · refine lv_aload_n hx hb dX12_reads_101 rfl (lv_at hl 1 rfl) ?_
                  refine hw_cM0 (va_runV (As := []) (rest := []) ⟨hx, hb, hml, hown, hts⟩ (k_X12_nextToken l D G h0 _ rm ud_m ky_168 lo_169 wk_170 dk_171 ln_m sm_m fi_172 be_173 rk_174 rl_175 rw_176 cl_177 p1 G0 Rm ⟨by first | decide | omega, by first | decide | omega⟩ ⟨by first | decide | omega, by first | decide | omega⟩ ⟨by first | decide | omega, by first | decide | omega⟩ ⟨by first | decide | omega, by first | decide | omega⟩ ⟨by first | decide | omega, by first | decide | omega⟩ ⟨by first | decide | omega, by first | decide | omega⟩ ⟨by first | decide | omega, by first | decide | omega⟩ ⟨by first | decide | omega, by first | decide | omega⟩ ⟨by first | decide | omega, by first | decide | omega⟩ ⟨by first | decide | omega, by first | decide | omega⟩ ⟨by first | decide | omega, by first | decide | omega⟩ ⟨by first | decide | omega, by first | decide | omega⟩) (cwV 0 hts gX12_reads_X12_nextToken rfl rfl rfl (by decide +kernel) ⟨Nat.le_of_ble_eq_true rfl, Nat.le_of_ble_eq_true rfl⟩) (hw_pV (hw_rc (q := (RX12, TX12, 45)) hK v42 rfl) hH hK hST hS (by decide) (fun _ h => Or.inl h) v42) rfl rfl hl.1 rfl (lv_room (Nat.le_of_ble_eq_true rfl)) dX12_reads_102 ⟨Nat.le_of_ble_eq_true rfl, Nat.le_of_ble_eq_true rfl⟩) hS (hw_AWsub (by decide) (fun _ _ => rfl) hS.1) (fun v H locs hp hz hk hS => ?_)
                  obtain ⟨x214, x215, rfl, hH, v216, g217, g218, q219, q220, q221⟩ := hp
                  refine lv_aload_n hx hb dX12_reads_105 rfl (lv_at hl 1 rfl) ?_
                  refine hw_cM0 (va_runV (As := []) (rest := []) ⟨hx, hb, hml, hown, hts⟩ (k_X12_readsClause l D G h0 _ rm ud_m ky_168 lo_169 wk_170 dk_171 ln_m sm_m x214 x215 rk_174 rl_175 rw_176 cl_177 p1 G0 Rm ⟨by first | decide | omega, by first | decide | omega⟩ ⟨by first | decide | omega, by first | decide | omega⟩ ⟨by first | decide | omega, by first | decide | omega⟩ ⟨by first | decide | omega, by first | decide | omega⟩ ⟨by first | decide | omega, by first | decide | omega⟩ ⟨by first | decide | omega, by first | decide | omega⟩ ⟨by first | decide | omega, by first | decide | omega⟩ ⟨by first | decide | omega, by first | decide | omega⟩ ⟨by first | decide | omega, by first | decide | omega⟩ ⟨by first | decide | omega, by first | decide | omega⟩ ⟨by first | decide | omega, by first | decide | omega⟩ ⟨by first | decide | omega, by first | decide | omega⟩ (by first | assumption | decide | omega) (by first | assumption | decide | omega) (by first | assumption | decide | omega) (by first | assumption | decide | omega) (by first | assumption | decide | omega)) (cwV 0 hts gX12_reads_X12_readsClause rfl rfl rfl (by decide +kernel) ⟨Nat.le_of_ble_eq_true rfl, Nat.le_of_ble_eq_true rfl⟩) (hw_pV (hw_rc (q := (RX12, TX12, 45)) hK v216 rfl) hH hK hST hS (by decide) (fun _ h => Or.inl h) v216) rfl rfl hl.1 rfl (lv_room (Nat.le_of_ble_eq_true rfl)) dX12_reads_106 ⟨Nat.le_of_ble_eq_true rfl, Nat.le_of_ble_eq_true rfl⟩) hS (hw_AWsub (by decide) (fun _ _ => rfl) hS.1) (fun v H locs hp hz hk hS => ?_)
                  rcases hp with ⟨x222, x223, x224, x225, x226, x227, x228, x229, x230, rfl, hH, v231, g232, g233, g234, g235, g236, g237, g238, g239, q240, q241, q242, q243, q244⟩ | ⟨x245, x246, x247, x248, x249, x250, x251, x252, x253, rfl, hH, v254, g255, g256, g257, g258, g259, g260, g261, g262, q263, q264, q265, q266, q267, q268⟩
                  · refine lv_istore_n (lv' := [(2, .int 0), (0, .ref h0), (1, .int p1)]) hx hb dX12_reads_109 rfl hl (by decide) rfl (fun ls hl => ?_)
                    refine lv_aload_n hx hb dX12_reads_110 rfl (lv_at hl 1 rfl) ?_
                    refine lv_dup hx hb dX12_reads_111 rfl ?_
                    refine hw_get hx hb fg_195_11 hK v231 rfl dX12_reads_112 ?_
                    refine lv_iconst (v := 1) hx hb dX12_reads_115 (by decide) ?_
                    refine lv_iadd hx hb dX12_reads_116 ?_
                    refine lv_topi (fun x269 e270 => ?_)
                    have rg271 := hw_rng cl_177
                    have t272 : x269.toInt = cl_177.toInt + 1 := by rw [e270]; exact hw_add rfl rfl (by omega) (by omega)
                    refine hw_put (v := .int x269) (fs' := hw_LM rm ud_m x227 x228 x229 x230 ln_m sm_m x222 x223 x224 x225 x226 x269 p1) hx hb fp_195_11 hK hH v231 (Nat.le_of_ble_eq_true rfl) rfl rfl rfl (fun _ => by rw [G0]; exact ⟨rm, ud_m, x227, x228, x229, x230, ln_m, sm_m, x222, x223, x224, x225, x226, x269, p1, rfl, Rm, ⟨by first | decide | omega, by first | decide | omega⟩, ⟨by first | decide | omega, by first | decide | omega⟩, ⟨by first | decide | omega, by first | decide | omega⟩, ⟨by first | decide | omega, by first | decide | omega⟩, ⟨by first | decide | omega, by first | decide | omega⟩, ⟨by first | decide | omega, by first | decide | omega⟩, ⟨by first | decide | omega, by first | decide | omega⟩, ⟨by first | decide | omega, by first | decide | omega⟩, ⟨by first | decide | omega, by first | decide | omega⟩, ⟨by first | decide | omega, by first | decide | omega⟩, ⟨by first | decide | omega, by first | decide | omega⟩, ⟨by first | decide | omega, by first | decide | omega⟩⟩) hS (hw_AWi G0 (by decide)) dX12_reads_117 (fun H locs hH v231 oq hz hS => ?_)
                    refine lv_goto (tgt := 53) hx hb dX12_reads_120 (by decide) ?_
                    exact ih53 0 x227 x228 x229 x230 x222 x223 x224 x225 x226 x269 (by first | omega | omega) ⟨by first | decide | omega, by first | decide | omega⟩ ⟨by first | decide | omega, by first | decide | omega⟩ ⟨by first | decide | omega, by first | decide | omega⟩ ⟨by first | decide | omega, by first | decide | omega⟩ ⟨by first | decide | omega, by first | decide | omega⟩ ⟨by first | decide | omega, by first | decide | omega⟩ ⟨by first | decide | omega, by first | decide | omega⟩ ⟨by first | decide | omega, by first | decide | omega⟩ ⟨by first | decide | omega, by first | decide | omega⟩ (by first | assumption | omega | decide | rfl | (intros; first | rfl | assumption | omega)) (by first | assumption | omega | decide | rfl | (intros; first | rfl | assumption | omega)) (by first | assumption | omega | decide | rfl | (intros; first | rfl | assumption | omega)) (by first | assumption | omega | decide | rfl | (intros; first | rfl | assumption | omega)) (by first | assumption | omega | decide | rfl | (intros; first | rfl | assumption | omega)) (by first | assumption | omega | decide | rfl | (intros; first | rfl | assumption | omega)) (by first | assumption | omega | decide | rfl | (intros; first | rfl | assumption | omega)) _ _ hH v231 hS _ (lv_sub hl [0, 1, 2] rfl)
                  · refine lv_istore_n (lv' := [(2, .int 1), (0, .ref h0), (1, .int p1)]) hx hb dX12_reads_109 rfl hl (by decide) rfl (fun ls hl => ?_)
                    refine lv_aload_n hx hb dX12_reads_110 rfl (lv_at hl 1 rfl) ?_
                    refine lv_dup hx hb dX12_reads_111 rfl ?_
                    refine hw_get hx hb fg_195_11 hK v254 rfl dX12_reads_112 ?_
                    refine lv_iconst (v := 1) hx hb dX12_reads_115 (by decide) ?_
                    refine lv_iadd hx hb dX12_reads_116 ?_
                    refine lv_topi (fun x273 e274 => ?_)
                    have rg275 := hw_rng cl_177
                    have t276 : x273.toInt = cl_177.toInt + 1 := by rw [e274]; exact hw_add rfl rfl (by omega) (by omega)
                    refine hw_put (v := .int x273) (fs' := hw_LM rm ud_m x250 x251 x252 x253 ln_m sm_m x245 x246 x247 x248 x249 x273 p1) hx hb fp_195_11 hK hH v254 (Nat.le_of_ble_eq_true rfl) rfl rfl rfl (fun _ => by rw [G0]; exact ⟨rm, ud_m, x250, x251, x252, x253, ln_m, sm_m, x245, x246, x247, x248, x249, x273, p1, rfl, Rm, ⟨by first | decide | omega, by first | decide | omega⟩, ⟨by first | decide | omega, by first | decide | omega⟩, ⟨by first | decide | omega, by first | decide | omega⟩, ⟨by first | decide | omega, by first | decide | omega⟩, ⟨by first | decide | omega, by first | decide | omega⟩, ⟨by first | decide | omega, by first | decide | omega⟩, ⟨by first | decide | omega, by first | decide | omega⟩, ⟨by first | decide | omega, by first | decide | omega⟩, ⟨by first | decide | omega, by first | decide | omega⟩, ⟨by first | decide | omega, by first | decide | omega⟩, ⟨by first | decide | omega, by first | decide | omega⟩, ⟨by first | decide | omega, by first | decide | omega⟩⟩) hS (hw_AWi G0 (by decide)) dX12_reads_117 (fun H locs hH v254 oq hz hS => ?_)
                    refine lv_goto (tgt := 53) hx hb dX12_reads_120 (by decide) ?_
                    exact ih53 1 x250 x251 x252 x253 x245 x246 x247 x248 x249 x273 (by first | omega | omega) ⟨by first | decide | omega, by first | decide | omega⟩ ⟨by first | decide | omega, by first | decide | omega⟩ ⟨by first | decide | omega, by first | decide | omega⟩ ⟨by first | decide | omega, by first | decide | omega⟩ ⟨by first | decide | omega, by first | decide | omega⟩ ⟨by first | decide | omega, by first | decide | omega⟩ ⟨by first | decide | omega, by first | decide | omega⟩ ⟨by first | decide | omega, by first | decide | omega⟩ ⟨by first | decide | omega, by first | decide | omega⟩ (by first | assumption | omega | decide | rfl | (intros; first | rfl | assumption | omega)) (by first | assumption | omega | decide | rfl | (intros; first | rfl | assumption | omega)) (by first | assumption | omega | decide | rfl | (intros; first | rfl | assumption | omega)) (by first | assumption | omega | decide | rfl | (intros; first | rfl | assumption | omega)) (by first | assumption | omega | decide | rfl | (intros; first | rfl | assumption | omega)) (by first | assumption | omega | decide | rfl | (intros; first | rfl | assumption | omega)) (by first | assumption | omega | decide | rfl | (intros; first | rfl | assumption | omega)) _ _ hH v254 hS _ (lv_sub hl [0, 1, 2] rfl)
    exact L53 _ 1 x38 x39 x40 x41 x33 x34 x35 x36 x37 1 (Nat.lt_succ_self _) ⟨by first | decide | omega, by first | decide | omega⟩ ⟨by first | decide | omega, by first | decide | omega⟩ ⟨by first | decide | omega, by first | decide | omega⟩ ⟨by first | decide | omega, by first | decide | omega⟩ ⟨by first | decide | omega, by first | decide | omega⟩ ⟨by first | decide | omega, by first | decide | omega⟩ ⟨by first | decide | omega, by first | decide | omega⟩ ⟨by first | decide | omega, by first | decide | omega⟩ ⟨by first | decide | omega, by first | decide | omega⟩ (by first | assumption | omega | decide | rfl | (intros; first | rfl | assumption | omega)) (by first | assumption | omega | decide | rfl | (intros; first | rfl | assumption | omega)) (by first | assumption | omega | decide | rfl | (intros; first | rfl | assumption | omega)) (by first | assumption | omega | decide | rfl | (intros; first | rfl | assumption | omega)) (by first | assumption | omega | decide | rfl | (intros; first | rfl | assumption | omega)) (by first | assumption | omega | decide | rfl | (intros; first | rfl | assumption | omega)) (by first | assumption | omega | decide | rfl | (intros; first | rfl | assumption | omega)) _ _ hH v42 hS _ (lv_sub hl [0, 1, 2] rfl)

set_option maxHeartbeats 4000000 in
set_option maxRecDepth 100000 in
theorem k_X12_fault (l : Launch) (D : hw_D) (G : Nat → Nat) (h0 : Nat) (sz : Nat) (rm : Nat → Nat) (ud_m ky_m lo_m wk_m dk_m ln_m sm_m fi_m be_m rk_m rl_m rw_m cl_m dg_m : Int32) (G0 : G h0 = 9) (Rm : hw_RM G rm) (gud_m : 0 ≤ ud_m.toInt ∧ ud_m.toInt ≤ 8) (gky_m : 0 ≤ ky_m.toInt ∧ ky_m.toInt ≤ 7) (glo_m : 0 ≤ lo_m.toInt ∧ lo_m.toInt ≤ 7) (gwk_m : 0 ≤ wk_m.toInt ∧ wk_m.toInt ≤ 3) (gln_m : 0 ≤ ln_m.toInt ∧ ln_m.toInt ≤ 200) (gsm_m : 0 ≤ sm_m.toInt ∧ sm_m.toInt ≤ 6) (gfi_m : 0 ≤ fi_m.toInt ∧ fi_m.toInt ≤ 200) (gbe_m : 0 ≤ be_m.toInt ∧ be_m.toInt ≤ 200) (grk_m : 0 ≤ rk_m.toInt ∧ rk_m.toInt ≤ 7) (grl_m : 0 ≤ rl_m.toInt ∧ rl_m.toInt ≤ 7) (grw_m : 0 ≤ rw_m.toInt ∧ rw_m.toInt ≤ 3) (gdg_m : 0 ≤ dg_m.toInt ∧ dg_m.toInt ≤ 1) : Met l yX12_fault wsX12_fault ({ frames := 7, cells := 0, slots := 0, locals := 153 } : Room) (hw_PC D G [.ref h0] sz (fun H => va_at D.1 vwCl (h0, .inr (11, hw_LM rm ud_m ky_m lo_m wk_m dk_m ln_m sm_m fi_m be_m rk_m rl_m rw_m cl_m dg_m)) H)) (hw_QM (fun v H => (∃ (fi_m2 : Int32) (be_m2 : Int32) (rk_m2 : Int32) (rl_m2 : Int32) (rw_m2 : Int32) (ky_m2 : Int32) (lo_m2 : Int32) (wk_m2 : Int32) (dk_m2 : Int32) (dg_m2 : Int32) (cl_m2 : Int32), v = some (.int (-1)) ∧ hw_HT D G H ∧ va_at D.1 vwCl (h0, .inr (11, hw_LM rm ud_m ky_m2 lo_m2 wk_m2 dk_m2 ln_m sm_m fi_m2 be_m2 rk_m2 rl_m2 rw_m2 cl_m2 dg_m2)) H ∧ (0 ≤ fi_m2.toInt ∧ fi_m2.toInt ≤ 200) ∧ (0 ≤ be_m2.toInt ∧ be_m2.toInt ≤ 200) ∧ (0 ≤ rk_m2.toInt ∧ rk_m2.toInt ≤ 7) ∧ (0 ≤ rl_m2.toInt ∧ rl_m2.toInt ≤ 7) ∧ (0 ≤ rw_m2.toInt ∧ rw_m2.toInt ≤ 3) ∧ (0 ≤ ky_m2.toInt ∧ ky_m2.toInt ≤ 7) ∧ (0 ≤ lo_m2.toInt ∧ lo_m2.toInt ≤ 7) ∧ (0 ≤ wk_m2.toInt ∧ wk_m2.toInt ≤ 3) ∧ (0 ≤ dg_m2.toInt ∧ dg_m2.toInt ≤ 1) ∧ 0 < ln_m.toInt) ∨ (∃ (r : Int32) (fi_m2 : Int32) (be_m2 : Int32) (rk_m2 : Int32) (rl_m2 : Int32) (rw_m2 : Int32) (ky_m2 : Int32) (lo_m2 : Int32) (wk_m2 : Int32) (dk_m2 : Int32) (dg_m2 : Int32) (cl_m2 : Int32), v = some (.int r) ∧ hw_HT D G H ∧ va_at D.1 vwCl (h0, .inr (11, hw_LM rm ud_m ky_m2 lo_m2 wk_m2 dk_m2 ln_m sm_m fi_m2 be_m2 rk_m2 rl_m2 rw_m2 cl_m2 dg_m2)) H ∧ (0 ≤ fi_m2.toInt ∧ fi_m2.toInt ≤ 200) ∧ (0 ≤ be_m2.toInt ∧ be_m2.toInt ≤ 200) ∧ (0 ≤ rk_m2.toInt ∧ rk_m2.toInt ≤ 7) ∧ (0 ≤ rl_m2.toInt ∧ rl_m2.toInt ≤ 7) ∧ (0 ≤ rw_m2.toInt ∧ rw_m2.toInt ≤ 3) ∧ (0 ≤ ky_m2.toInt ∧ ky_m2.toInt ≤ 7) ∧ (0 ≤ lo_m2.toInt ∧ lo_m2.toInt ≤ 7) ∧ (0 ≤ wk_m2.toInt ∧ wk_m2.toInt ≤ 3) ∧ (0 ≤ dg_m2.toInt ∧ dg_m2.toInt ≤ 1) ∧ (0 ≤ r.toInt ∧ r.toInt ≤ 200) ∧ (ln_m.toInt = 0 → r.toInt = 0))) (hw_AW G [9, 44, 45, 46, 48, 49, 50, 51, 53, 67] sz)) 0 0 (hw_AW G [9, 44, 45, 46, 48, 49, 50, 51, 53, 67] sz) := by
  refine hw_met (cc := cX12_fault) (maxL := 1) (ret := (some .int)) (plainFor_of_name (by decide)) rfl (Nat.le_of_ble_eq_true rfl) ?_
  intro p e s m args below meth c QQ ls hsz hx hb hml hr hts hown hlocks hnm hH hK hST hF hQ hl
  subst hsz
  have hS : va_S (hw_AW G [9, 44, 45, 46, 48, 49, 50, 51, 53, 67] s.heap.size) s.heap s.heap [] := va_S.rf
  have vm := hF
  have hl : lv_has ls 1 [(0, .ref h0)] := hl
  have u_11 : ∀ w ∈ u_ws RX12 TX12 45, w.before args s = true := fun w hw => hts w ((by decide +kernel : ∀ w ∈ u_ws RX12 TX12 45, w ∈ wsX12_fault) w hw)
  have fg_129_11 : hw_FG s args m 129 11 20 := ⟨RX12, "WardWalkersModel", RX12, TX12, 45, u_11, hown, rfl, by decide, (hts (.fieldLink RX12 129 "WardWalkersModel" "first" "I") (by decide +kernel)), (fun _ h9 => h9)⟩
  refine lv_aload_n hx hb dX12_fault_0 rfl (lv_at hl 0 rfl) ?_
  refine lv_iconst (v := 0) hx hb dX12_fault_1 (by decide) ?_
  refine hw_cM0 (va_runV (As := [.int 0]) (rest := []) ⟨hx, hb, hml, hown, hts⟩ (k_X12_reads l D G h0 0 _ rm ud_m ky_m lo_m wk_m dk_m ln_m sm_m fi_m be_m rk_m rl_m rw_m cl_m dg_m G0 Rm ⟨by first | decide | omega, by first | decide | omega⟩ ⟨by first | decide | omega, by first | decide | omega⟩ ⟨by first | decide | omega, by first | decide | omega⟩ ⟨by first | decide | omega, by first | decide | omega⟩ ⟨by first | decide | omega, by first | decide | omega⟩ ⟨by first | decide | omega, by first | decide | omega⟩ ⟨by first | decide | omega, by first | decide | omega⟩ ⟨by first | decide | omega, by first | decide | omega⟩ ⟨by first | decide | omega, by first | decide | omega⟩ ⟨by first | decide | omega, by first | decide | omega⟩ ⟨by first | decide | omega, by first | decide | omega⟩ ⟨by first | decide | omega, by first | decide | omega⟩ (by first | assumption | decide | omega)) (cwV 1 hts gX12_fault_X12_reads rfl rfl rfl (by decide +kernel) ⟨Nat.le_of_ble_eq_true rfl, Nat.le_of_ble_eq_true rfl⟩) (hw_pV (hw_rc (q := (RX12, TX12, 45)) hK vm rfl) hH hK hST hS (by decide) (fun _ h => Or.inl h) vm) rfl rfl hl.1 rfl (lv_room (Nat.le_of_ble_eq_true rfl)) dX12_fault_2 ⟨Nat.le_of_ble_eq_true rfl, Nat.le_of_ble_eq_true rfl⟩) hS (hw_AWsub (by decide) (fun _ _ => rfl) hS.1) (fun v H locs hp hz hk hS => ?_)
  have l1 : (0 : Int32).toInt = 0 := rfl
  rcases hp with ⟨x2, x3, x4, x5, x6, x7, x8, x9, x10, x11, x12, rfl, hH, v13, g14, g15, g16, g17, g18, g19, g20, g21, g22, q23⟩ | ⟨x24, x25, x26, x27, x28, x29, x30, x31, x32, x33, x34, rfl, hH, v35, g36, g37, g38, g39, g40, g41, g42, g43, g44, q45, q46⟩
  · refine lv_if_eq (tgt := 12) hx hb dX12_fault_5 (by decide) (fun c47 => ?_) (fun c47 => ?_)
    · refine lv_aload_n hx hb dX12_fault_12 rfl (lv_at hl 0 rfl) ?_
      refine hw_get hx hb fg_129_11 hK v13 rfl dX12_fault_13 ?_
      exact hw_iretM (v := x2) hx hb hr hlocks hQ hS rfl (Or.inr (⟨x2, x2, x3, x4, x5, x6, x7, x8, x9, x10, x11, x12, rfl, hH, v13, ⟨by first | decide | omega, by first | decide | omega⟩, ⟨by first | decide | omega, by first | decide | omega⟩, ⟨by first | decide | omega, by first | decide | omega⟩, ⟨by first | decide | omega, by first | decide | omega⟩, ⟨by first | decide | omega, by first | decide | omega⟩, ⟨by first | decide | omega, by first | decide | omega⟩, ⟨by first | decide | omega, by first | decide | omega⟩, ⟨by first | decide | omega, by first | decide | omega⟩, ⟨by first | decide | omega, by first | decide | omega⟩, ⟨by first | decide | omega, by first | decide | omega⟩, (by first | rfl | trivial | assumption | omega | (intros; first | rfl | assumption | omega | (exfalso; omega)))⟩)) dX12_fault_16
    · exact absurd c47 (by decide)
  · refine lv_if_eq (tgt := 12) hx hb dX12_fault_5 (by decide) (fun c48 => ?_) (fun c48 => ?_)
    · exact absurd c48 (by decide)
    · refine lv_iconst (v := (-1)) hx hb dX12_fault_8 (by decide) ?_
      refine lv_goto (tgt := 16) hx hb dX12_fault_9 (by decide) ?_
      exact hw_iretM (v := (-1)) hx hb hr hlocks hQ hS rfl (Or.inl ⟨x24, x25, x26, x27, x28, x29, x30, x31, x32, x33, x34, rfl, hH, v35, ⟨by first | decide | omega, by first | decide | omega⟩, ⟨by first | decide | omega, by first | decide | omega⟩, ⟨by first | decide | omega, by first | decide | omega⟩, ⟨by first | decide | omega, by first | decide | omega⟩, ⟨by first | decide | omega, by first | decide | omega⟩, ⟨by first | decide | omega, by first | decide | omega⟩, ⟨by first | decide | omega, by first | decide | omega⟩, ⟨by first | decide | omega, by first | decide | omega⟩, ⟨by first | decide | omega, by first | decide | omega⟩, (by first | rfl | trivial | assumption | omega | (intros; first | rfl | assumption | omega | (exfalso; omega)))⟩) dX12_fault_16

set_option maxHeartbeats 4000000 in
set_option maxRecDepth 100000 in
theorem k_X12_land (l : Launch) (D : hw_D) (G : Nat → Nat) (h0 : Nat) (sz : Nat) (rm : Nat → Nat) (ud_m ky_m lo_m wk_m dk_m ln_m sm_m fi_m be_m rk_m rl_m rw_m cl_m dg_m : Int32) (G0 : G h0 = 9) (Rm : hw_RM G rm) (gud_m : 0 ≤ ud_m.toInt ∧ ud_m.toInt ≤ 8) (gky_m : 0 ≤ ky_m.toInt ∧ ky_m.toInt ≤ 7) (glo_m : 0 ≤ lo_m.toInt ∧ lo_m.toInt ≤ 7) (gwk_m : 0 ≤ wk_m.toInt ∧ wk_m.toInt ≤ 3) (gln_m : 0 ≤ ln_m.toInt ∧ ln_m.toInt ≤ 200) (gsm_m : 0 ≤ sm_m.toInt ∧ sm_m.toInt ≤ 6) (gfi_m : 0 ≤ fi_m.toInt ∧ fi_m.toInt ≤ 200) (gbe_m : 0 ≤ be_m.toInt ∧ be_m.toInt ≤ 200) (grk_m : 0 ≤ rk_m.toInt ∧ rk_m.toInt ≤ 7) (grl_m : 0 ≤ rl_m.toInt ∧ rl_m.toInt ≤ 7) (grw_m : 0 ≤ rw_m.toInt ∧ rw_m.toInt ≤ 3) (gdg_m : 0 ≤ dg_m.toInt ∧ dg_m.toInt ≤ 1) : Met l yX12_land wsX12_land ({ frames := 7, cells := 0, slots := 0, locals := 153 } : Room) (hw_PC D G [.ref h0] sz (fun H => va_at D.1 vwCl (h0, .inr (11, hw_LM rm ud_m ky_m lo_m wk_m dk_m ln_m sm_m fi_m be_m rk_m rl_m rw_m cl_m dg_m)) H)) (hw_QM (fun v H => (∃ (fi_m2 : Int32) (be_m2 : Int32) (rk_m2 : Int32) (rl_m2 : Int32) (rw_m2 : Int32) (ky_m2 : Int32) (lo_m2 : Int32) (wk_m2 : Int32) (dk_m2 : Int32) (dg_m2 : Int32) (cl_m2 : Int32) (ln_m2 : Int32) (ud_m2 : Int32) (sm_m2 : Int32), v = some (.int (-4)) ∧ hw_HT D G H ∧ va_at D.1 vwCl (h0, .inr (11, hw_LM rm ud_m2 ky_m2 lo_m2 wk_m2 dk_m2 ln_m2 sm_m2 fi_m2 be_m2 rk_m2 rl_m2 rw_m2 cl_m2 dg_m2)) H ∧ (0 ≤ fi_m2.toInt ∧ fi_m2.toInt ≤ 200) ∧ (0 ≤ be_m2.toInt ∧ be_m2.toInt ≤ 200) ∧ (0 ≤ rk_m2.toInt ∧ rk_m2.toInt ≤ 7) ∧ (0 ≤ rl_m2.toInt ∧ rl_m2.toInt ≤ 7) ∧ (0 ≤ rw_m2.toInt ∧ rw_m2.toInt ≤ 3) ∧ (0 ≤ ky_m2.toInt ∧ ky_m2.toInt ≤ 7) ∧ (0 ≤ lo_m2.toInt ∧ lo_m2.toInt ≤ 7) ∧ (0 ≤ wk_m2.toInt ∧ wk_m2.toInt ≤ 3) ∧ (0 ≤ dg_m2.toInt ∧ dg_m2.toInt ≤ 1) ∧ (0 ≤ ln_m2.toInt ∧ ln_m2.toInt ≤ 200) ∧ (0 ≤ ud_m2.toInt ∧ ud_m2.toInt ≤ 8) ∧ (0 ≤ sm_m2.toInt ∧ sm_m2.toInt ≤ 6)) ∨ (∃ (r : Int32) (fi_m2 : Int32) (be_m2 : Int32) (rk_m2 : Int32) (rl_m2 : Int32) (rw_m2 : Int32) (ky_m2 : Int32) (lo_m2 : Int32) (wk_m2 : Int32) (dk_m2 : Int32) (dg_m2 : Int32) (cl_m2 : Int32) (ln_m2 : Int32) (ud_m2 : Int32) (sm_m2 : Int32), v = some (.int r) ∧ hw_HT D G H ∧ va_at D.1 vwCl (h0, .inr (11, hw_LM rm ud_m2 ky_m2 lo_m2 wk_m2 dk_m2 ln_m2 sm_m2 fi_m2 be_m2 rk_m2 rl_m2 rw_m2 cl_m2 dg_m2)) H ∧ (0 ≤ fi_m2.toInt ∧ fi_m2.toInt ≤ 200) ∧ (0 ≤ be_m2.toInt ∧ be_m2.toInt ≤ 200) ∧ (0 ≤ rk_m2.toInt ∧ rk_m2.toInt ≤ 7) ∧ (0 ≤ rl_m2.toInt ∧ rl_m2.toInt ≤ 7) ∧ (0 ≤ rw_m2.toInt ∧ rw_m2.toInt ≤ 3) ∧ (0 ≤ ky_m2.toInt ∧ ky_m2.toInt ≤ 7) ∧ (0 ≤ lo_m2.toInt ∧ lo_m2.toInt ≤ 7) ∧ (0 ≤ wk_m2.toInt ∧ wk_m2.toInt ≤ 3) ∧ (0 ≤ dg_m2.toInt ∧ dg_m2.toInt ≤ 1) ∧ (0 ≤ ln_m2.toInt ∧ ln_m2.toInt ≤ 200) ∧ (0 ≤ ud_m2.toInt ∧ ud_m2.toInt ≤ 8) ∧ (0 ≤ sm_m2.toInt ∧ sm_m2.toInt ≤ 6) ∧ 0 < ln_m.toInt)) (hw_AW G [9, 44, 45, 46, 48, 49, 50, 51, 53, 67, 40, 42] sz)) 0 0 (hw_AW G [9, 44, 45, 46, 48, 49, 50, 51, 53, 67, 40, 42] sz) := by
  refine hw_met (cc := cX12_land) (maxL := 2) (ret := (some .int)) (plainFor_of_name (by decide)) rfl (Nat.le_of_ble_eq_true rfl) ?_
  intro p e s m args below meth c QQ ls hsz hx hb hml hr hts hown hlocks hnm hH hK hST hF hQ hl
  subst hsz
  have hS : va_S (hw_AW G [9, 44, 45, 46, 48, 49, 50, 51, 53, 67, 40, 42] s.heap.size) s.heap s.heap [] := va_S.rf
  have vm := hF
  have hl : lv_has ls 2 [(0, .ref h0)] := hl
  have u_11 : ∀ w ∈ u_ws RX12 TX12 45, w.before args s = true := fun w hw => hts w ((by decide +kernel : ∀ w ∈ u_ws RX12 TX12 45, w ∈ wsX12_land) w hw)
  have fp_115_11 : hw_FP s args m 115 11 16 false .int := ⟨RX12, "WardWalkersModel", RX12, TX12, 45, tyX12, u_11, hown, rfl, by decide, (hts (.fieldLink RX12 115 "WardWalkersModel" "length" "I") (by decide +kernel)), (fun _ h9 => h9), tyX12_ok, nmX12, rfl, (fun h => by cases h), by decide +kernel⟩
  have fg_148_11 : hw_FG s args m 148 11 12 := ⟨RX12, "WardWalkersModel", RX12, TX12, 45, u_11, hown, rfl, by decide, (hts (.fieldLink RX12 148 "WardWalkersModel" "walkers" "I") (by decide +kernel)), (fun _ h9 => h9)⟩
  have fp_205_11 : hw_FP s args m 205 11 1 false .int := ⟨RX12, "WardWalkersModel", RX12, TX12, 45, tyX12, u_11, hown, rfl, by decide, (hts (.fieldLink RX12 205 "WardWalkersModel" "undos" "I") (by decide +kernel)), (fun _ h9 => h9), tyX12_ok, nmX12, rfl, (fun h => by cases h), by decide +kernel⟩
  have fg_13_11 : hw_FG s args m 13 11 2 := ⟨RX12, "WardWalkersModel", RX12, TX12, 45, u_11, hown, rfl, by decide, (hts (.fieldLink RX12 13 "WardWalkersModel" "isKept" "[Z") (by decide +kernel)), (fun _ h9 => h9)⟩
  have fp_208_11 : hw_FP s args m 208 11 17 false .int := ⟨RX12, "WardWalkersModel", RX12, TX12, 45, tyX12, u_11, hown, rfl, by decide, (hts (.fieldLink RX12 208 "WardWalkersModel" "seenMany" "I") (by decide +kernel)), (fun _ h9 => h9), tyX12_ok, nmX12, rfl, (fun h => by cases h), by decide +kernel⟩
  have fg_195_11 : hw_FG s args m 195 11 25 := ⟨RX12, "WardWalkersModel", RX12, TX12, 45, u_11, hown, rfl, by decide, (hts (.fieldLink RX12 195 "WardWalkersModel" "clauses" "I") (by decide +kernel)), (fun _ h9 => h9)⟩
  have fg_7_11 : hw_FG s args m 7 11 0 := ⟨RX12, "WardWalkersModel", RX12, TX12, 45, u_11, hown, rfl, by decide, (hts (.fieldLink RX12 7 "WardWalkersModel" "row" "[I") (by decide +kernel)), (fun _ h9 => h9)⟩
  have fg_38_11 : hw_FG s args m 38 11 13 := ⟨RX12, "WardWalkersModel", RX12, TX12, 45, u_11, hown, rfl, by decide, (hts (.fieldLink RX12 38 "WardWalkersModel" "begun" "[I") (by decide +kernel)), (fun _ h9 => h9)⟩
  refine lv_aload_n hx hb dX12_land_0 rfl (lv_at hl 0 rfl) ?_
  refine lv_iconst (v := 0) hx hb dX12_land_1 (by decide) ?_
  refine hw_cM0 (va_runV (As := [.int 0]) (rest := []) ⟨hx, hb, hml, hown, hts⟩ (k_X12_reads l D G h0 0 _ rm ud_m ky_m lo_m wk_m dk_m ln_m sm_m fi_m be_m rk_m rl_m rw_m cl_m dg_m G0 Rm ⟨by first | decide | omega, by first | decide | omega⟩ ⟨by first | decide | omega, by first | decide | omega⟩ ⟨by first | decide | omega, by first | decide | omega⟩ ⟨by first | decide | omega, by first | decide | omega⟩ ⟨by first | decide | omega, by first | decide | omega⟩ ⟨by first | decide | omega, by first | decide | omega⟩ ⟨by first | decide | omega, by first | decide | omega⟩ ⟨by first | decide | omega, by first | decide | omega⟩ ⟨by first | decide | omega, by first | decide | omega⟩ ⟨by first | decide | omega, by first | decide | omega⟩ ⟨by first | decide | omega, by first | decide | omega⟩ ⟨by first | decide | omega, by first | decide | omega⟩ (by first | assumption | decide | omega)) (cwV 1 hts gX12_land_X12_reads rfl rfl rfl (by decide +kernel) ⟨Nat.le_of_ble_eq_true rfl, Nat.le_of_ble_eq_true rfl⟩) (hw_pV (hw_rc (q := (RX12, TX12, 45)) hK vm rfl) hH hK hST hS (by decide) (fun _ h => Or.inl h) vm) rfl rfl hl.1 rfl (lv_room (Nat.le_of_ble_eq_true rfl)) dX12_land_2 ⟨Nat.le_of_ble_eq_true rfl, Nat.le_of_ble_eq_true rfl⟩) hS (hw_AWsub (by decide) (fun _ _ => rfl) hS.1) (fun v H locs hp hz hk hS => ?_)
  have l1 : (0 : Int32).toInt = 0 := rfl
  rcases hp with ⟨x2, x3, x4, x5, x6, x7, x8, x9, x10, x11, x12, rfl, hH, v13, g14, g15, g16, g17, g18, g19, g20, g21, g22, q23⟩ | ⟨x24, x25, x26, x27, x28, x29, x30, x31, x32, x33, x34, rfl, hH, v35, g36, g37, g38, g39, g40, g41, g42, g43, g44, q45, q46⟩
  · refine lv_if_ne (tgt := 11) hx hb dX12_land_5 (by decide) (fun c47 => ?_) (fun c47 => ?_)
    · exact absurd c47 (by decide)
    · refine lv_bipush (v := (-4)) hx hb dX12_land_8 (by decide) ?_
      exact hw_iretM (v := (-4)) hx hb hr hlocks hQ hS rfl (Or.inl ⟨x2, x3, x4, x5, x6, x7, x8, x9, x10, x11, x12, ln_m, ud_m, sm_m, rfl, hH, v13, ⟨by first | decide | omega, by first | decide | omega⟩, ⟨by first | decide | omega, by first | decide | omega⟩, ⟨by first | decide | omega, by first | decide | omega⟩, ⟨by first | decide | omega, by first | decide | omega⟩, ⟨by first | decide | omega, by first | decide | omega⟩, ⟨by first | decide | omega, by first | decide | omega⟩, ⟨by first | decide | omega, by first | decide | omega⟩, ⟨by first | decide | omega, by first | decide | omega⟩, ⟨by first | decide | omega, by first | decide | omega⟩, ⟨by first | decide | omega, by first | decide | omega⟩, ⟨by first | decide | omega, by first | decide | omega⟩, ⟨by first | decide | omega, by first | decide | omega⟩⟩) dX12_land_10
  · refine lv_if_ne (tgt := 11) hx hb dX12_land_5 (by decide) (fun c48 => ?_) (fun c48 => ?_)
    · refine lv_aload_n hx hb dX12_land_11 rfl (lv_at hl 0 rfl) ?_
      refine lv_iconst (v := 1) hx hb dX12_land_12 (by decide) ?_
      refine hw_cM0 (va_runV (As := [.int 1]) (rest := []) ⟨hx, hb, hml, hown, hts⟩ (k_X12_reads l D G h0 1 _ rm ud_m x29 x30 x31 x32 ln_m sm_m x24 x25 x26 x27 x28 x34 x33 G0 Rm ⟨by first | decide | omega, by first | decide | omega⟩ ⟨by first | decide | omega, by first | decide | omega⟩ ⟨by first | decide | omega, by first | decide | omega⟩ ⟨by first | decide | omega, by first | decide | omega⟩ ⟨by first | decide | omega, by first | decide | omega⟩ ⟨by first | decide | omega, by first | decide | omega⟩ ⟨by first | decide | omega, by first | decide | omega⟩ ⟨by first | decide | omega, by first | decide | omega⟩ ⟨by first | decide | omega, by first | decide | omega⟩ ⟨by first | decide | omega, by first | decide | omega⟩ ⟨by first | decide | omega, by first | decide | omega⟩ ⟨by first | decide | omega, by first | decide | omega⟩ (by first | assumption | decide | omega)) (cwV 1 hts gX12_land_X12_reads rfl rfl rfl (by decide +kernel) ⟨Nat.le_of_ble_eq_true rfl, Nat.le_of_ble_eq_true rfl⟩) (hw_pV (hw_rc (q := (RX12, TX12, 45)) hK v35 rfl) hH hK hST hS (by decide) (fun _ h => Or.inl h) v35) rfl rfl hl.1 rfl (lv_room (Nat.le_of_ble_eq_true rfl)) dX12_land_13 ⟨Nat.le_of_ble_eq_true rfl, Nat.le_of_ble_eq_true rfl⟩) hS (hw_AWsub (by decide) (fun _ _ => rfl) hS.1) (fun v H locs hp hz hk hS => ?_)
      have l49 : (1 : Int32).toInt = 1 := rfl
      rcases hp with ⟨x50, x51, x52, x53, x54, x55, x56, x57, x58, x59, x60, rfl, hH, v61, g62, g63, g64, g65, g66, g67, g68, g69, g70, q71⟩ | ⟨x72, x73, x74, x75, x76, x77, x78, x79, x80, x81, x82, rfl, hH, v83, g84, g85, g86, g87, g88, g89, g90, g91, g92, q93, q94⟩
      · refine lv_pop hx hb dX12_land_16 rfl ?_
        refine lv_aload_n hx hb dX12_land_17 rfl (lv_at hl 0 rfl) ?_
        refine lv_iconst (v := 0) hx hb dX12_land_18 (by decide) ?_
        refine hw_put (v := .int 0) (fs' := hw_LM rm ud_m x55 x56 x57 x58 0 sm_m x50 x51 x52 x53 x54 x60 x59) hx hb fp_115_11 hK hH v61 (Nat.le_of_ble_eq_true rfl) rfl rfl rfl (fun _ => by rw [G0]; exact ⟨rm, ud_m, x55, x56, x57, x58, 0, sm_m, x50, x51, x52, x53, x54, x60, x59, rfl, Rm, ⟨by first | decide | omega, by first | decide | omega⟩, ⟨by first | decide | omega, by first | decide | omega⟩, ⟨by first | decide | omega, by first | decide | omega⟩, ⟨by first | decide | omega, by first | decide | omega⟩, ⟨by first | decide | omega, by first | decide | omega⟩, ⟨by first | decide | omega, by first | decide | omega⟩, ⟨by first | decide | omega, by first | decide | omega⟩, ⟨by first | decide | omega, by first | decide | omega⟩, ⟨by first | decide | omega, by first | decide | omega⟩, ⟨by first | decide | omega, by first | decide | omega⟩, ⟨by first | decide | omega, by first | decide | omega⟩, ⟨by first | decide | omega, by first | decide | omega⟩⟩) hS (hw_AWi G0 (by decide)) dX12_land_19 (fun H locs hH v61 oq hz hS => ?_)
        refine lv_iconst (v := 0) hx hb dX12_land_22 (by decide) ?_
        refine lv_istore_n (lv' := [(1, .int 0), (0, .ref h0)]) hx hb dX12_land_23 rfl hl (by decide) rfl (fun ls hl => ?_)
        have L24 : ∀ (n97 : Nat) (y1_95 : Int32) (hm : (23 - y1_95.toInt).toNat < n97) (g96 : 0 ≤ y1_95.toInt ∧ y1_95.toInt ≤ 23) (H : Heap) (locs : List Loc) (hH : hw_HT D G H) (v61 : va_at D.1 vwCl (h0, .inr (11, hw_LM rm ud_m x55 x56 x57 x58 0 sm_m x50 x51 x52 x53 x54 x60 x59)) H) (hS : va_S (hw_AW G [9, 44, 45, 46, 48, 49, 50, 51, 53, 67, 40, 42] s.heap.size) s.heap H locs) (ls : Array Slot) (hl : lv_has ls 2 [(1, .int y1_95), (0, .ref h0)]), W p l e ({ frames := 7, cells := 0, slots := 0, locals := 153 } : Room) s m args below meth c H locs 0 0 QQ (F0 m 24 ls []) := by
          intro n97
          induction n97 with
          | zero => intro y1_95 hm; exact absurd hm (Nat.not_lt_zero _)
          | succ n97 ih24 =>
            intro y1_95 hm g96 H locs hH v61 hS ls hl
            refine lv_iload_n hx hb dX12_land_24 rfl (lv_at hl 0 rfl) ?_
            refine lv_bipush (v := 23) hx hb dX12_land_25 (by decide) ?_
            refine lv_icmp_ge (tgt := 43) hx hb dX12_land_27 (by decide) (fun c98 => ?_) (fun c98 => ?_)
            · have b99 : 23 ≤ y1_95.toInt := hw_ile c98
              refine lv_iconst (v := 0) hx hb dX12_land_43 (by decide) ?_
              refine lv_istore_n (lv' := [(1, .int 0), (0, .ref h0)]) hx hb dX12_land_44 rfl hl (by decide) rfl (fun ls hl => ?_)
              have L45 : ∀ (n102 : Nat) (y1_100 : Int32) (hm : (3 - y1_100.toInt).toNat < n102) (g101 : 0 ≤ y1_100.toInt ∧ y1_100.toInt ≤ 3) (H : Heap) (locs : List Loc) (hH : hw_HT D G H) (v61 : va_at D.1 vwCl (h0, .inr (11, hw_LM rm ud_m x55 x56 x57 x58 0 sm_m x50 x51 x52 x53 x54 x60 x59)) H) (hS : va_S (hw_AW G [9, 44, 45, 46, 48, 49, 50, 51, 53, 67, 40, 42] s.heap.size) s.heap H locs) (ls : Array Slot) (hl : lv_has ls 2 [(1, .int y1_100), (0, .ref h0)]), W p l e ({ frames := 7, cells := 0, slots := 0, locals := 153 } : Room) s m args below meth c H locs 0 0 QQ (F0 m 45 ls []) := by
                intro n102
                induction n102 with
                | zero => intro y1_100 hm; exact absurd hm (Nat.not_lt_zero _)
                | succ n102 ih45 =>
                  intro y1_100 hm g101 H locs hH v61 hS ls hl
                  refine lv_iload_n hx hb dX12_land_45 rfl (lv_at hl 0 rfl) ?_
                  refine lv_aload_n hx hb dX12_land_46 rfl (lv_at hl 1 rfl) ?_
                  refine hw_get hx hb fg_148_11 hK v61 rfl dX12_land_47 ?_
                  refine lv_icmp_ge (tgt := 74) hx hb dX12_land_50 (by decide) (fun c103 => ?_) (fun c103 => ?_)
                  · have b104 : x57.toInt ≤ y1_100.toInt := hw_ile c103
                    refine lv_aload_n hx hb dX12_land_74 rfl (lv_at hl 1 rfl) ?_
                    refine lv_iconst (v := 0) hx hb dX12_land_75 (by decide) ?_
                    refine hw_put (v := .int 0) (fs' := hw_LM rm 0 x55 x56 x57 x58 0 sm_m x50 x51 x52 x53 x54 x60 x59) hx hb fp_205_11 hK hH v61 (Nat.le_of_ble_eq_true rfl) rfl rfl rfl (fun _ => by rw [G0]; exact ⟨rm, 0, x55, x56, x57, x58, 0, sm_m, x50, x51, x52, x53, x54, x60, x59, rfl, Rm, ⟨by first | decide | omega, by first | decide | omega⟩, ⟨by first | decide | omega, by first | decide | omega⟩, ⟨by first | decide | omega, by first | decide | omega⟩, ⟨by first | decide | omega, by first | decide | omega⟩, ⟨by first | decide | omega, by first | decide | omega⟩, ⟨by first | decide | omega, by first | decide | omega⟩, ⟨by first | decide | omega, by first | decide | omega⟩, ⟨by first | decide | omega, by first | decide | omega⟩, ⟨by first | decide | omega, by first | decide | omega⟩, ⟨by first | decide | omega, by first | decide | omega⟩, ⟨by first | decide | omega, by first | decide | omega⟩, ⟨by first | decide | omega, by first | decide | omega⟩⟩) hS (hw_AWi G0 (by decide)) dX12_land_76 (fun H locs hH v61 oq hz hS => ?_)
                    refine lv_aload_n hx hb dX12_land_79 rfl (lv_at hl 1 rfl) ?_
                    refine hw_get hx hb fg_13_11 hK v61 rfl dX12_land_80 ?_
                    refine lv_iconst (v := 0) hx hb dX12_land_83 (by decide) ?_
                    refine lv_iconst (v := 0) hx hb dX12_land_84 (by decide) ?_
                    obtain ⟨f105, v106⟩ := hH.a42 (hw_RM_2 Rm)
                    refine hw_zast hx hb hK hH v106 (hw_in (x := 0) (by decide) (by decide)) (fun _ => by rw [(hw_RM_2 Rm)]; exact ⟨_, rfl⟩) hS (hw_AWi (hw_RM_2 Rm) (by decide)) dX12_land_85 (fun H locs hH v106 oq hz hS => ?_)
                    have v61 := va_at.kept v61 (oq _ (hw_ne G0 (hw_RM_2 Rm) (by decide)))
                    refine lv_aload_n hx hb dX12_land_86 rfl (lv_at hl 1 rfl) ?_
                    refine hw_get hx hb fg_13_11 hK v61 rfl dX12_land_87 ?_
                    refine lv_iconst (v := 1) hx hb dX12_land_90 (by decide) ?_
                    refine lv_iconst (v := 0) hx hb dX12_land_91 (by decide) ?_
                    obtain ⟨f108, v109⟩ := hH.a42 (hw_RM_2 Rm)
                    refine hw_zast hx hb hK hH v109 (hw_in (x := 1) (by decide) (by decide)) (fun _ => by rw [(hw_RM_2 Rm)]; exact ⟨_, rfl⟩) hS (hw_AWi (hw_RM_2 Rm) (by decide)) dX12_land_92 (fun H locs hH v109 oq hz hS => ?_)
                    have v61 := va_at.kept v61 (oq _ (hw_ne G0 (hw_RM_2 Rm) (by decide)))
                    refine lv_aload_n hx hb dX12_land_93 rfl (lv_at hl 1 rfl) ?_
                    refine lv_iconst (v := 0) hx hb dX12_land_94 (by decide) ?_
                    refine hw_put (v := .int 0) (fs' := hw_LM rm 0 x55 x56 x57 x58 0 0 x50 x51 x52 x53 x54 x60 x59) hx hb fp_208_11 hK hH v61 (Nat.le_of_ble_eq_true rfl) rfl rfl rfl (fun _ => by rw [G0]; exact ⟨rm, 0, x55, x56, x57, x58, 0, 0, x50, x51, x52, x53, x54, x60, x59, rfl, Rm, ⟨by first | decide | omega, by first | decide | omega⟩, ⟨by first | decide | omega, by first | decide | omega⟩, ⟨by first | decide | omega, by first | decide | omega⟩, ⟨by first | decide | omega, by first | decide | omega⟩, ⟨by first | decide | omega, by first | decide | omega⟩, ⟨by first | decide | omega, by first | decide | omega⟩, ⟨by first | decide | omega, by first | decide | omega⟩, ⟨by first | decide | omega, by first | decide | omega⟩, ⟨by first | decide | omega, by first | decide | omega⟩, ⟨by first | decide | omega, by first | decide | omega⟩, ⟨by first | decide | omega, by first | decide | omega⟩, ⟨by first | decide | omega, by first | decide | omega⟩⟩) hS (hw_AWi G0 (by decide)) dX12_land_95 (fun H locs hH v61 oq hz hS => ?_)
                    refine lv_aload_n hx hb dX12_land_98 rfl (lv_at hl 1 rfl) ?_
                    refine hw_get hx hb fg_195_11 hK v61 rfl dX12_land_99 ?_
                    exact hw_iretM (v := x60) hx hb hr hlocks hQ hS rfl (Or.inr (⟨x60, x50, x51, x52, x53, x54, x55, x56, x57, x58, x59, x60, 0, 0, 0, rfl, hH, v61, ⟨by first | decide | omega, by first | decide | omega⟩, ⟨by first | decide | omega, by first | decide | omega⟩, ⟨by first | decide | omega, by first | decide | omega⟩, ⟨by first | decide | omega, by first | decide | omega⟩, ⟨by first | decide | omega, by first | decide | omega⟩, ⟨by first | decide | omega, by first | decide | omega⟩, ⟨by first | decide | omega, by first | decide | omega⟩, ⟨by first | decide | omega, by first | decide | omega⟩, ⟨by first | decide | omega, by first | decide | omega⟩, ⟨by first | decide | omega, by first | decide | omega⟩, ⟨by first | decide | omega, by first | decide | omega⟩, ⟨by first | decide | omega, by first | decide | omega⟩, (by first | rfl | trivial | assumption | omega | (intros; first | rfl | assumption | omega | (exfalso; omega)))⟩)) dX12_land_102
                  · have b111 : y1_100.toInt < x57.toInt := hw_inle c103
                    refine lv_aload_n hx hb dX12_land_53 rfl (lv_at hl 1 rfl) ?_
                    refine hw_get hx hb fg_7_11 hK v61 rfl dX12_land_54 ?_
                    refine lv_bipush (v := 17) hx hb dX12_land_57 (by decide) ?_
                    refine lv_iload_n hx hb dX12_land_59 rfl (lv_at hl 0 rfl) ?_
                    refine lv_iadd hx hb dX12_land_60 ?_
                    refine lv_topi (fun x112 e113 => ?_)
                    have t114 : x112.toInt = 17 + y1_100.toInt := by rw [e113]; exact hw_add rfl rfl (by omega) (by omega)
                    refine lv_aload_n hx hb dX12_land_61 rfl (lv_at hl 1 rfl) ?_
                    refine hw_get hx hb fg_38_11 hK v61 rfl dX12_land_62 ?_
                    refine lv_iload_n hx hb dX12_land_65 rfl (lv_at hl 0 rfl) ?_
                    obtain ⟨f115, v116⟩ := hH.a53 (hw_RM_13 Rm)
                    refine hw_iald hx hb hK v116 (hw_in (by omega) (by omega)) dX12_land_66 ?_
                    refine lv_topi (fun x118 e119 => ?_)
                    obtain ⟨f120, v121⟩ := hH.a40 (hw_RM_0 Rm)
                    refine hw_iast hx hb hK hH v121 (hw_in (by omega) (by omega)) (fun _ => by rw [(hw_RM_0 Rm)]; exact ⟨_, rfl⟩) hS (hw_AWi (hw_RM_0 Rm) (by decide)) dX12_land_67 (fun H locs hH v121 oq hz hS => ?_)
                    have v61 := va_at.kept v61 (oq _ (hw_ne G0 (hw_RM_0 Rm) (by decide)))
                    obtain ⟨x123, e124⟩ : ∃ y : Int32, y = y1_100 + 1 := ⟨_, rfl⟩
                    refine lv_iinc (v := x123) (lv' := [(1, .int x123), (0, .ref h0)]) hx hb dX12_land_68 hl (k := 0) rfl (by rw [e124]; rfl) (by decide) rfl (fun ls hl => ?_)
                    have t125 : x123.toInt = y1_100.toInt + 1 := by rw [e124]; exact hw_add rfl rfl (by omega) (by omega)
                    refine lv_goto (tgt := 45) hx hb dX12_land_71 (by decide) ?_
                    exact ih45 x123 (by first | omega | omega) ⟨by first | decide | omega, by first | decide | omega⟩ _ _ hH v61 hS _ (lv_sub hl [0, 1] rfl)
              exact L45 _ 0 (Nat.lt_succ_self _) ⟨by first | decide | omega, by first | decide | omega⟩ _ _ hH v61 hS _ (lv_sub hl [0, 1] rfl)
            · have b126 : y1_95.toInt < 23 := hw_inle c98
              refine lv_aload_n hx hb dX12_land_30 rfl (lv_at hl 1 rfl) ?_
              refine hw_get hx hb fg_7_11 hK v61 rfl dX12_land_31 ?_
              refine lv_iload_n hx hb dX12_land_34 rfl (lv_at hl 0 rfl) ?_
              refine lv_iconst (v := 0) hx hb dX12_land_35 (by decide) ?_
              obtain ⟨f127, v128⟩ := hH.a40 (hw_RM_0 Rm)
              refine hw_iast hx hb hK hH v128 (hw_in (by omega) (by omega)) (fun _ => by rw [(hw_RM_0 Rm)]; exact ⟨_, rfl⟩) hS (hw_AWi (hw_RM_0 Rm) (by decide)) dX12_land_36 (fun H locs hH v128 oq hz hS => ?_)
              have v61 := va_at.kept v61 (oq _ (hw_ne G0 (hw_RM_0 Rm) (by decide)))
              obtain ⟨x130, e131⟩ : ∃ y : Int32, y = y1_95 + 1 := ⟨_, rfl⟩
              refine lv_iinc (v := x130) (lv' := [(1, .int x130), (0, .ref h0)]) hx hb dX12_land_37 hl (k := 0) rfl (by rw [e131]; rfl) (by decide) rfl (fun ls hl => ?_)
              have t132 : x130.toInt = y1_95.toInt + 1 := by rw [e131]; exact hw_add rfl rfl (by omega) (by omega)
              refine lv_goto (tgt := 24) hx hb dX12_land_40 (by decide) ?_
              exact ih24 x130 (by first | omega | omega) ⟨by first | decide | omega, by first | decide | omega⟩ _ _ hH v61 hS _ (lv_sub hl [0, 1] rfl)
        exact L24 _ 0 (Nat.lt_succ_self _) ⟨by first | decide | omega, by first | decide | omega⟩ _ _ hH v61 hS _ (lv_sub hl [0, 1] rfl)
      · refine lv_pop hx hb dX12_land_16 rfl ?_
        refine lv_aload_n hx hb dX12_land_17 rfl (lv_at hl 0 rfl) ?_
        refine lv_iconst (v := 0) hx hb dX12_land_18 (by decide) ?_
        refine hw_put (v := .int 0) (fs' := hw_LM rm ud_m x77 x78 x79 x80 0 sm_m x72 x73 x74 x75 x76 x82 x81) hx hb fp_115_11 hK hH v83 (Nat.le_of_ble_eq_true rfl) rfl rfl rfl (fun _ => by rw [G0]; exact ⟨rm, ud_m, x77, x78, x79, x80, 0, sm_m, x72, x73, x74, x75, x76, x82, x81, rfl, Rm, ⟨by first | decide | omega, by first | decide | omega⟩, ⟨by first | decide | omega, by first | decide | omega⟩, ⟨by first | decide | omega, by first | decide | omega⟩, ⟨by first | decide | omega, by first | decide | omega⟩, ⟨by first | decide | omega, by first | decide | omega⟩, ⟨by first | decide | omega, by first | decide | omega⟩, ⟨by first | decide | omega, by first | decide | omega⟩, ⟨by first | decide | omega, by first | decide | omega⟩, ⟨by first | decide | omega, by first | decide | omega⟩, ⟨by first | decide | omega, by first | decide | omega⟩, ⟨by first | decide | omega, by first | decide | omega⟩, ⟨by first | decide | omega, by first | decide | omega⟩⟩) hS (hw_AWi G0 (by decide)) dX12_land_19 (fun H locs hH v83 oq hz hS => ?_)
        refine lv_iconst (v := 0) hx hb dX12_land_22 (by decide) ?_
        refine lv_istore_n (lv' := [(1, .int 0), (0, .ref h0)]) hx hb dX12_land_23 rfl hl (by decide) rfl (fun ls hl => ?_)
        have L24 : ∀ (n135 : Nat) (y1_133 : Int32) (hm : (23 - y1_133.toInt).toNat < n135) (g134 : 0 ≤ y1_133.toInt ∧ y1_133.toInt ≤ 23) (H : Heap) (locs : List Loc) (hH : hw_HT D G H) (v83 : va_at D.1 vwCl (h0, .inr (11, hw_LM rm ud_m x77 x78 x79 x80 0 sm_m x72 x73 x74 x75 x76 x82 x81)) H) (hS : va_S (hw_AW G [9, 44, 45, 46, 48, 49, 50, 51, 53, 67, 40, 42] s.heap.size) s.heap H locs) (ls : Array Slot) (hl : lv_has ls 2 [(1, .int y1_133), (0, .ref h0)]), W p l e ({ frames := 7, cells := 0, slots := 0, locals := 153 } : Room) s m args below meth c H locs 0 0 QQ (F0 m 24 ls []) := by
          intro n135
          induction n135 with
          | zero => intro y1_133 hm; exact absurd hm (Nat.not_lt_zero _)
          | succ n135 ih24 =>
            intro y1_133 hm g134 H locs hH v83 hS ls hl
            refine lv_iload_n hx hb dX12_land_24 rfl (lv_at hl 0 rfl) ?_
            refine lv_bipush (v := 23) hx hb dX12_land_25 (by decide) ?_
            refine lv_icmp_ge (tgt := 43) hx hb dX12_land_27 (by decide) (fun c136 => ?_) (fun c136 => ?_)
            · have b137 : 23 ≤ y1_133.toInt := hw_ile c136
              refine lv_iconst (v := 0) hx hb dX12_land_43 (by decide) ?_
              refine lv_istore_n (lv' := [(1, .int 0), (0, .ref h0)]) hx hb dX12_land_44 rfl hl (by decide) rfl (fun ls hl => ?_)
              have L45 : ∀ (n140 : Nat) (y1_138 : Int32) (hm : (3 - y1_138.toInt).toNat < n140) (g139 : 0 ≤ y1_138.toInt ∧ y1_138.toInt ≤ 3) (H : Heap) (locs : List Loc) (hH : hw_HT D G H) (v83 : va_at D.1 vwCl (h0, .inr (11, hw_LM rm ud_m x77 x78 x79 x80 0 sm_m x72 x73 x74 x75 x76 x82 x81)) H) (hS : va_S (hw_AW G [9, 44, 45, 46, 48, 49, 50, 51, 53, 67, 40, 42] s.heap.size) s.heap H locs) (ls : Array Slot) (hl : lv_has ls 2 [(1, .int y1_138), (0, .ref h0)]), W p l e ({ frames := 7, cells := 0, slots := 0, locals := 153 } : Room) s m args below meth c H locs 0 0 QQ (F0 m 45 ls []) := by
                intro n140
                induction n140 with
                | zero => intro y1_138 hm; exact absurd hm (Nat.not_lt_zero _)
                | succ n140 ih45 =>
                  intro y1_138 hm g139 H locs hH v83 hS ls hl
                  refine lv_iload_n hx hb dX12_land_45 rfl (lv_at hl 0 rfl) ?_
                  refine lv_aload_n hx hb dX12_land_46 rfl (lv_at hl 1 rfl) ?_
                  refine hw_get hx hb fg_148_11 hK v83 rfl dX12_land_47 ?_
                  refine lv_icmp_ge (tgt := 74) hx hb dX12_land_50 (by decide) (fun c141 => ?_) (fun c141 => ?_)
                  · have b142 : x79.toInt ≤ y1_138.toInt := hw_ile c141
                    refine lv_aload_n hx hb dX12_land_74 rfl (lv_at hl 1 rfl) ?_
                    refine lv_iconst (v := 0) hx hb dX12_land_75 (by decide) ?_
                    refine hw_put (v := .int 0) (fs' := hw_LM rm 0 x77 x78 x79 x80 0 sm_m x72 x73 x74 x75 x76 x82 x81) hx hb fp_205_11 hK hH v83 (Nat.le_of_ble_eq_true rfl) rfl rfl rfl (fun _ => by rw [G0]; exact ⟨rm, 0, x77, x78, x79, x80, 0, sm_m, x72, x73, x74, x75, x76, x82, x81, rfl, Rm, ⟨by first | decide | omega, by first | decide | omega⟩, ⟨by first | decide | omega, by first | decide | omega⟩, ⟨by first | decide | omega, by first | decide | omega⟩, ⟨by first | decide | omega, by first | decide | omega⟩, ⟨by first | decide | omega, by first | decide | omega⟩, ⟨by first | decide | omega, by first | decide | omega⟩, ⟨by first | decide | omega, by first | decide | omega⟩, ⟨by first | decide | omega, by first | decide | omega⟩, ⟨by first | decide | omega, by first | decide | omega⟩, ⟨by first | decide | omega, by first | decide | omega⟩, ⟨by first | decide | omega, by first | decide | omega⟩, ⟨by first | decide | omega, by first | decide | omega⟩⟩) hS (hw_AWi G0 (by decide)) dX12_land_76 (fun H locs hH v83 oq hz hS => ?_)
                    refine lv_aload_n hx hb dX12_land_79 rfl (lv_at hl 1 rfl) ?_
                    refine hw_get hx hb fg_13_11 hK v83 rfl dX12_land_80 ?_
                    refine lv_iconst (v := 0) hx hb dX12_land_83 (by decide) ?_
                    refine lv_iconst (v := 0) hx hb dX12_land_84 (by decide) ?_
                    obtain ⟨f143, v144⟩ := hH.a42 (hw_RM_2 Rm)
                    refine hw_zast hx hb hK hH v144 (hw_in (x := 0) (by decide) (by decide)) (fun _ => by rw [(hw_RM_2 Rm)]; exact ⟨_, rfl⟩) hS (hw_AWi (hw_RM_2 Rm) (by decide)) dX12_land_85 (fun H locs hH v144 oq hz hS => ?_)
                    have v83 := va_at.kept v83 (oq _ (hw_ne G0 (hw_RM_2 Rm) (by decide)))
                    refine lv_aload_n hx hb dX12_land_86 rfl (lv_at hl 1 rfl) ?_
                    refine hw_get hx hb fg_13_11 hK v83 rfl dX12_land_87 ?_
                    refine lv_iconst (v := 1) hx hb dX12_land_90 (by decide) ?_
                    refine lv_iconst (v := 0) hx hb dX12_land_91 (by decide) ?_
                    obtain ⟨f146, v147⟩ := hH.a42 (hw_RM_2 Rm)
                    refine hw_zast hx hb hK hH v147 (hw_in (x := 1) (by decide) (by decide)) (fun _ => by rw [(hw_RM_2 Rm)]; exact ⟨_, rfl⟩) hS (hw_AWi (hw_RM_2 Rm) (by decide)) dX12_land_92 (fun H locs hH v147 oq hz hS => ?_)
                    have v83 := va_at.kept v83 (oq _ (hw_ne G0 (hw_RM_2 Rm) (by decide)))
                    refine lv_aload_n hx hb dX12_land_93 rfl (lv_at hl 1 rfl) ?_
                    refine lv_iconst (v := 0) hx hb dX12_land_94 (by decide) ?_
                    refine hw_put (v := .int 0) (fs' := hw_LM rm 0 x77 x78 x79 x80 0 0 x72 x73 x74 x75 x76 x82 x81) hx hb fp_208_11 hK hH v83 (Nat.le_of_ble_eq_true rfl) rfl rfl rfl (fun _ => by rw [G0]; exact ⟨rm, 0, x77, x78, x79, x80, 0, 0, x72, x73, x74, x75, x76, x82, x81, rfl, Rm, ⟨by first | decide | omega, by first | decide | omega⟩, ⟨by first | decide | omega, by first | decide | omega⟩, ⟨by first | decide | omega, by first | decide | omega⟩, ⟨by first | decide | omega, by first | decide | omega⟩, ⟨by first | decide | omega, by first | decide | omega⟩, ⟨by first | decide | omega, by first | decide | omega⟩, ⟨by first | decide | omega, by first | decide | omega⟩, ⟨by first | decide | omega, by first | decide | omega⟩, ⟨by first | decide | omega, by first | decide | omega⟩, ⟨by first | decide | omega, by first | decide | omega⟩, ⟨by first | decide | omega, by first | decide | omega⟩, ⟨by first | decide | omega, by first | decide | omega⟩⟩) hS (hw_AWi G0 (by decide)) dX12_land_95 (fun H locs hH v83 oq hz hS => ?_)
                    refine lv_aload_n hx hb dX12_land_98 rfl (lv_at hl 1 rfl) ?_
                    refine hw_get hx hb fg_195_11 hK v83 rfl dX12_land_99 ?_
                    exact hw_iretM (v := x82) hx hb hr hlocks hQ hS rfl (Or.inr (⟨x82, x72, x73, x74, x75, x76, x77, x78, x79, x80, x81, x82, 0, 0, 0, rfl, hH, v83, ⟨by first | decide | omega, by first | decide | omega⟩, ⟨by first | decide | omega, by first | decide | omega⟩, ⟨by first | decide | omega, by first | decide | omega⟩, ⟨by first | decide | omega, by first | decide | omega⟩, ⟨by first | decide | omega, by first | decide | omega⟩, ⟨by first | decide | omega, by first | decide | omega⟩, ⟨by first | decide | omega, by first | decide | omega⟩, ⟨by first | decide | omega, by first | decide | omega⟩, ⟨by first | decide | omega, by first | decide | omega⟩, ⟨by first | decide | omega, by first | decide | omega⟩, ⟨by first | decide | omega, by first | decide | omega⟩, ⟨by first | decide | omega, by first | decide | omega⟩, (by first | rfl | trivial | assumption | omega | (intros; first | rfl | assumption | omega | (exfalso; omega)))⟩)) dX12_land_102
                  · have b149 : y1_138.toInt < x79.toInt := hw_inle c141
                    refine lv_aload_n hx hb dX12_land_53 rfl (lv_at hl 1 rfl) ?_
                    refine hw_get hx hb fg_7_11 hK v83 rfl dX12_land_54 ?_
                    refine lv_bipush (v := 17) hx hb dX12_land_57 (by decide) ?_
                    refine lv_iload_n hx hb dX12_land_59 rfl (lv_at hl 0 rfl) ?_
                    refine lv_iadd hx hb dX12_land_60 ?_
                    refine lv_topi (fun x150 e151 => ?_)
                    have t152 : x150.toInt = 17 + y1_138.toInt := by rw [e151]; exact hw_add rfl rfl (by omega) (by omega)
                    refine lv_aload_n hx hb dX12_land_61 rfl (lv_at hl 1 rfl) ?_
                    refine hw_get hx hb fg_38_11 hK v83 rfl dX12_land_62 ?_
                    refine lv_iload_n hx hb dX12_land_65 rfl (lv_at hl 0 rfl) ?_
                    obtain ⟨f153, v154⟩ := hH.a53 (hw_RM_13 Rm)
                    refine hw_iald hx hb hK v154 (hw_in (by omega) (by omega)) dX12_land_66 ?_
                    refine lv_topi (fun x156 e157 => ?_)
                    obtain ⟨f158, v159⟩ := hH.a40 (hw_RM_0 Rm)
                    refine hw_iast hx hb hK hH v159 (hw_in (by omega) (by omega)) (fun _ => by rw [(hw_RM_0 Rm)]; exact ⟨_, rfl⟩) hS (hw_AWi (hw_RM_0 Rm) (by decide)) dX12_land_67 (fun H locs hH v159 oq hz hS => ?_)
                    have v83 := va_at.kept v83 (oq _ (hw_ne G0 (hw_RM_0 Rm) (by decide)))
                    obtain ⟨x161, e162⟩ : ∃ y : Int32, y = y1_138 + 1 := ⟨_, rfl⟩
                    refine lv_iinc (v := x161) (lv' := [(1, .int x161), (0, .ref h0)]) hx hb dX12_land_68 hl (k := 0) rfl (by rw [e162]; rfl) (by decide) rfl (fun ls hl => ?_)
                    have t163 : x161.toInt = y1_138.toInt + 1 := by rw [e162]; exact hw_add rfl rfl (by omega) (by omega)
                    refine lv_goto (tgt := 45) hx hb dX12_land_71 (by decide) ?_
                    exact ih45 x161 (by first | omega | omega) ⟨by first | decide | omega, by first | decide | omega⟩ _ _ hH v83 hS _ (lv_sub hl [0, 1] rfl)
              exact L45 _ 0 (Nat.lt_succ_self _) ⟨by first | decide | omega, by first | decide | omega⟩ _ _ hH v83 hS _ (lv_sub hl [0, 1] rfl)
            · have b164 : y1_133.toInt < 23 := hw_inle c136
              refine lv_aload_n hx hb dX12_land_30 rfl (lv_at hl 1 rfl) ?_
              refine hw_get hx hb fg_7_11 hK v83 rfl dX12_land_31 ?_
              refine lv_iload_n hx hb dX12_land_34 rfl (lv_at hl 0 rfl) ?_
              refine lv_iconst (v := 0) hx hb dX12_land_35 (by decide) ?_
              obtain ⟨f165, v166⟩ := hH.a40 (hw_RM_0 Rm)
              refine hw_iast hx hb hK hH v166 (hw_in (by omega) (by omega)) (fun _ => by rw [(hw_RM_0 Rm)]; exact ⟨_, rfl⟩) hS (hw_AWi (hw_RM_0 Rm) (by decide)) dX12_land_36 (fun H locs hH v166 oq hz hS => ?_)
              have v83 := va_at.kept v83 (oq _ (hw_ne G0 (hw_RM_0 Rm) (by decide)))
              obtain ⟨x168, e169⟩ : ∃ y : Int32, y = y1_133 + 1 := ⟨_, rfl⟩
              refine lv_iinc (v := x168) (lv' := [(1, .int x168), (0, .ref h0)]) hx hb dX12_land_37 hl (k := 0) rfl (by rw [e169]; rfl) (by decide) rfl (fun ls hl => ?_)
              have t170 : x168.toInt = y1_133.toInt + 1 := by rw [e169]; exact hw_add rfl rfl (by omega) (by omega)
              refine lv_goto (tgt := 24) hx hb dX12_land_40 (by decide) ?_
              exact ih24 x168 (by first | omega | omega) ⟨by first | decide | omega, by first | decide | omega⟩ _ _ hH v83 hS _ (lv_sub hl [0, 1] rfl)
        exact L24 _ 0 (Nat.lt_succ_self _) ⟨by first | decide | omega, by first | decide | omega⟩ _ _ hH v83 hS _ (lv_sub hl [0, 1] rfl)
    · exact absurd c48 (by decide)
