set_option maxHeartbeats 4000000 in
set_option maxRecDepth 100000 in
theorem k2_X6_isFree (l : Launch) (D : hw_D) (G : Nat → Nat) (h0 : Nat) (p1 : Int32) (p2 : Int32) (p3 : Int32) (sz : Nat) (ra : Nat → Nat) (pa_a : Int32) (ftk : Nat → Int32) (G0 : G h0 = 5) (Ra : hw_RP G ra) (hl2 : 0 ≤ p2.toInt ∧ p2.toInt < 7) : Met l yX6_isFree wsX6_isFree ({ frames := 0, cells := 0, slots := 0, locals := 0 } : Room) (hw_PC D G [.ref h0, .int p1, .int p2, .int p3] sz (fun H => va_at D.1 vwCl (h0, .inr (5, hw_LP ra pa_a)) H ∧ va_at D.1 vwCl ((ra 0), .inl (D.2.1 0, 7, .inl ftk)) H)) (hw_QR (fun v => (v = .int 1 ∧ (ftk p2.toNatClampNeg).toInt ≠ 0) ∨ (v = .int 0))) 0 0 (fun _ => False) := by
  refine hw_met (cc := cX6_isFree) (maxL := 4) (ret := (some .boolean)) (plainFor_of_name (by decide)) rfl (Nat.le_of_ble_eq_true rfl) ?_
  intro p e s m args below meth c QQ ls hsz hx hb hml hr hts hown hlocks hnm hH hK hST hF hQ hl
  subst hsz
  have hS : va_S (hw_AW G [] s.heap.size) s.heap s.heap [] := va_S.rf
  obtain ⟨va, vtk⟩ := hF
  have hl : lv_has ls 4 [(0, .ref h0), (1, .int p1), (2, .int p2), (3, .int p3)] := hl
  have u_5 : ∀ w ∈ u_ws RX6 TX6 7, w.before args s = true := fun w hw => hts w ((by decide +kernel : ∀ w ∈ u_ws RX6 TX6 7, w ∈ wsX6_isFree) w hw)
  have fg_9_5 : hw_FG s args m 9 5 0 := ⟨RX6, "WardWalkers$Planner", RX6, TX6, 7, u_5, hown, rfl, by decide, (hts (.fieldLink RX6 9 "WardWalkers$Planner" "takers" "[I") (by decide +kernel)), (fun _ h9 => h9)⟩
  refine lv_aload_n hx hb dX6_isFree_0 rfl (lv_at hl 0 rfl) ?_
  refine hw_get hx hb fg_9_5 hK va rfl dX6_isFree_1 ?_
  refine lv_iload_n hx hb dX6_isFree_4 rfl (lv_at hl 2 rfl) ?_
  refine hw_iald hx hb hK vtk (hw_in (by omega) (by omega)) dX6_isFree_5 ?_
  refine lv_topi (fun x1 e2 => ?_)
  have ht6 := e2
  refine lv_iload_n hx hb dX6_isFree_6 rfl (lv_at hl 1 rfl) ?_
  refine lv_ishr hx hb dX6_isFree_7 ?_
  refine lv_topi (fun x3 e4 => ?_)
  refine lv_iconst (v := 1) hx hb dX6_isFree_8 (by decide) ?_
  refine lv_iand hx hb dX6_isFree_9 ?_
  refine lv_topi (fun x5 e6 => ?_)
  have t7 : 0 ≤ x5.toInt ∧ x5.toInt ≤ 1 := by rw [e6]; exact hw_and (by first | decide | omega)
  have ht0 : (ftk p2.toNatClampNeg).toInt = 0 → x5.toInt = 0 := by intro h9; rw [e6, e4, ht6, hw_z h9]; exact hw_ieq (hw_bit0 _)
  refine lv_iconst (v := 1) hx hb dX6_isFree_10 (by decide) ?_
  refine lv_icmp_ne (tgt := 26) hx hb dX6_isFree_11 (by decide) (fun c8 => ?_) (fun c8 => ?_)
  · have b9 : x5.toInt ≠ 1 := hw_ine c8
    refine lv_iconst (v := 0) hx hb dX6_isFree_26 (by decide) ?_
    exact hw_iretR (v := 0) hx hb hr hlocks hQ rfl (Or.inr (rfl)) dX6_isFree_27
  · have b10 : x5.toInt = 1 := hw_ieq c8
    refine lv_iload_n hx hb dX6_isFree_14 rfl (lv_at hl 3 rfl) ?_
    refine lv_iload_n hx hb dX6_isFree_15 rfl (lv_at hl 1 rfl) ?_
    refine lv_ishr hx hb dX6_isFree_16 ?_
    refine lv_topi (fun x11 e12 => ?_)
    refine lv_iconst (v := 1) hx hb dX6_isFree_17 (by decide) ?_
    refine lv_iand hx hb dX6_isFree_18 ?_
    refine lv_topi (fun x13 e14 => ?_)
    have t15 : 0 ≤ x13.toInt ∧ x13.toInt ≤ 1 := by rw [e14]; exact hw_and (by first | decide | omega)
    refine lv_if_ne (tgt := 26) hx hb dX6_isFree_19 (by decide) (fun c16 => ?_) (fun c16 => ?_)
    · have b17 : x13.toInt ≠ 0 := hw_ine c16
      refine lv_iconst (v := 0) hx hb dX6_isFree_26 (by decide) ?_
      exact hw_iretR (v := 0) hx hb hr hlocks hQ rfl (Or.inr (rfl)) dX6_isFree_27
    · have b18 : x13.toInt = 0 := hw_ieq c16
      refine lv_iconst (v := 1) hx hb dX6_isFree_22 (by decide) ?_
      refine lv_goto (tgt := 27) hx hb dX6_isFree_23 (by decide) ?_
      exact hw_iretR (v := 1) hx hb hr hlocks hQ rfl (Or.inl ⟨rfl, (by intro h9; have h8 := ht0 h9; omega)⟩) dX6_isFree_27

set_option maxHeartbeats 4000000 in
set_option maxRecDepth 100000 in
theorem k2_X6_fillMost (l : Launch) (D : hw_D) (G : Nat → Nat) (h0 : Nat) (sz : Nat) (ra : Nat → Nat) (pa_a : Int32) (ftk : Nat → Int32) (fmf : Nat → Int32) (G0 : G h0 = 5) (Ra : hw_RP G ra) : Met l yX6_fillMost wsX6_fillMost ({ frames := 1, cells := 0, slots := 0, locals := 23 } : Room) (hw_PC D G [.ref h0] sz (fun H => va_at D.1 vwCl (h0, .inr (5, hw_LP ra pa_a)) H ∧ va_at D.1 vwCl ((ra 0), .inl (D.2.1 0, 7, .inl ftk)) H ∧ va_at D.1 vwCl ((ra 1), .inl (D.2.1 0, 1024, .inl fmf)) H)) (hw_QM (fun v H => ∃ (fmf2 : Nat → Int32), v = none ∧ hw_HT D G H ∧ va_at D.1 vwCl (h0, .inr (5, hw_LP ra pa_a)) H ∧ va_at D.1 vwCl ((ra 0), .inl (D.2.1 0, 7, .inl ftk)) H ∧ va_at D.1 vwCl ((ra 1), .inl (D.2.1 0, 1024, .inl fmf2)) H ∧ ((∀ j, j < 7 → ftk j = 0) → fmf2 0 = 0)) (hw_AW G [14] sz)) 0 0 (hw_AW G [14] sz) := by
  refine hw_met (cc := cX6_fillMost) (maxL := 5) (ret := none) (plainFor_of_name (by decide)) rfl (Nat.le_of_ble_eq_true rfl) ?_
  intro p e s m args below meth c QQ ls hsz hx hb hml hr hts hown hlocks hnm hH hK hST hF hQ hl
  subst hsz
  have hS : va_S (hw_AW G [14] s.heap.size) s.heap s.heap [] := va_S.rf
  obtain ⟨va, vtk, vmf⟩ := hF
  have hl : lv_has ls 5 [(0, .ref h0)] := hl
  have u_5 : ∀ w ∈ u_ws RX6 TX6 7, w.before args s = true := fun w hw => hts w ((by decide +kernel : ∀ w ∈ u_ws RX6 TX6 7, w ∈ wsX6_fillMost) w hw)
  have fg_15_5 : hw_FG s args m 15 5 1 := ⟨RX6, "WardWalkers$Planner", RX6, TX6, 7, u_5, hown, rfl, by decide, (hts (.fieldLink RX6 15 "WardWalkers$Planner" "mostFrom" "[I") (by decide +kernel)), (fun _ h9 => h9)⟩
  refine lv_iconst (v := 0) hx hb dX6_fillMost_0 (by decide) ?_
  refine lv_istore_n (lv' := [(1, .int 0), (0, .ref h0)]) hx hb dX6_fillMost_1 rfl hl (by decide) rfl (fun ls hl => ?_)
  have L2 : ∀ (n4 : Nat) (y1_1 : Int32) (f2 : Nat → Int32) (hm : (128 - y1_1.toInt).toNat < n4) (g3 : 0 ≤ y1_1.toInt ∧ y1_1.toInt ≤ 128) (inv2_0 : hw_zr f2 896 (896 + y1_1.toNatClampNeg)) (H : Heap) (locs : List Loc) (hH : hw_HT D G H) (va : va_at D.1 vwCl (h0, .inr (5, hw_LP ra pa_a)) H) (vtk : va_at D.1 vwCl ((ra 0), .inl (D.2.1 0, 7, .inl ftk)) H) (vmf : va_at D.1 vwCl ((ra 1), .inl (D.2.1 0, 1024, .inl f2)) H) (hS : va_S (hw_AW G [14] s.heap.size) s.heap H locs) (ls : Array Slot) (hl : lv_has ls 5 [(1, .int y1_1), (0, .ref h0)]), W p l e ({ frames := 1, cells := 0, slots := 0, locals := 23 } : Room) s m args below meth c H locs 0 0 QQ (F0 m 2 ls []) := by
    intro n4
    induction n4 with
    | zero => intro y1_1 f2 hm; exact absurd hm (Nat.not_lt_zero _)
    | succ n4 ih2 =>
      intro y1_1 f2 hm g3 inv2_0 H locs hH va vtk vmf hS ls hl
      refine lv_iload_n hx hb dX6_fillMost_2 rfl (lv_at hl 0 rfl) ?_
      refine lv_sipush (v := 128) hx hb dX6_fillMost_3 (by decide) ?_
      refine lv_icmp_ge (tgt := 26) hx hb dX6_fillMost_6 (by decide) (fun c5 => ?_) (fun c5 => ?_)
      · have b6 : 128 ≤ y1_1.toInt := hw_ile c5
        have hz : hw_zr f2 896 1024 := by have h8 := inv2_0; rw [hw_cl (x := y1_1) (n := 128) (by omega)] at h8; exact h8
        refine lv_bipush (v := 6) hx hb dX6_fillMost_26 (by decide) ?_
        refine lv_istore_n (lv' := [(1, .int 6), (0, .ref h0)]) hx hb dX6_fillMost_28 rfl hl (by decide) rfl (fun ls hl => ?_)
        have L29 : ∀ (n10 : Nat) (y1_7 : Int32) (f8 : Nat → Int32) (hm : (y1_7.toInt + 1).toNat < n10) (g9 : (-1) ≤ y1_7.toInt ∧ y1_7.toInt ≤ 6) (inv29_0 : (∀ j, j < 7 → ftk j = 0) → hw_zr f8 (128 * (y1_7.toInt + 1)).toNat 1024) (H : Heap) (locs : List Loc) (hH : hw_HT D G H) (va : va_at D.1 vwCl (h0, .inr (5, hw_LP ra pa_a)) H) (vtk : va_at D.1 vwCl ((ra 0), .inl (D.2.1 0, 7, .inl ftk)) H) (vmf : va_at D.1 vwCl ((ra 1), .inl (D.2.1 0, 1024, .inl f8)) H) (hS : va_S (hw_AW G [14] s.heap.size) s.heap H locs) (ls : Array Slot) (hl : lv_has ls 5 [(1, .int y1_7), (0, .ref h0)]), W p l e ({ frames := 1, cells := 0, slots := 0, locals := 23 } : Room) s m args below meth c H locs 0 0 QQ (F0 m 29 ls []) := by
          intro n10
          induction n10 with
          | zero => intro y1_7 f8 hm; exact absurd hm (Nat.not_lt_zero _)
          | succ n10 ih29 =>
            intro y1_7 f8 hm g9 inv29_0 H locs hH va vtk vmf hS ls hl
            refine lv_iload_n hx hb dX6_fillMost_29 rfl (lv_at hl 0 rfl) ?_
            refine lv_if_lt (tgt := 135) hx hb dX6_fillMost_30 (by decide) (fun c11 => ?_) (fun c11 => ?_)
            · have b12 : y1_7.toInt < 0 := hw_ilt c11
              exact hw_vretM hx hb hr hlocks hQ hS (⟨f8, rfl, hH, va, vtk, vmf, (by intro h9; exact inv29_0 h9 0 (by omega) (by omega))⟩) dX6_fillMost_135
            · have b13 : 0 ≤ y1_7.toInt := hw_inlt c11
              refine lv_iconst (v := 0) hx hb dX6_fillMost_33 (by decide) ?_
              refine lv_istore_n (lv' := [(2, .int 0), (1, .int y1_7), (0, .ref h0)]) hx hb dX6_fillMost_34 rfl hl (by decide) rfl (fun ls hl => ?_)
              have L35 : ∀ (n17 : Nat) (y2_14 : Int32) (f15 : Nat → Int32) (hm : (128 - y2_14.toInt).toNat < n17) (g16 : 0 ≤ y2_14.toInt ∧ y2_14.toInt ≤ 128) (inv35_0 : (∀ j, j < 7 → ftk j = 0) → hw_zr f15 (128 * (y1_7.toInt + 1)).toNat 1024) (inv35_1 : (∀ j, j < 7 → ftk j = 0) → hw_zr f15 (128 * y1_7.toInt).toNat ((128 * y1_7.toInt).toNat + y2_14.toNatClampNeg)) (H : Heap) (locs : List Loc) (hH : hw_HT D G H) (va : va_at D.1 vwCl (h0, .inr (5, hw_LP ra pa_a)) H) (vtk : va_at D.1 vwCl ((ra 0), .inl (D.2.1 0, 7, .inl ftk)) H) (vmf : va_at D.1 vwCl ((ra 1), .inl (D.2.1 0, 1024, .inl f15)) H) (hS : va_S (hw_AW G [14] s.heap.size) s.heap H locs) (ls : Array Slot) (hl : lv_has ls 5 [(2, .int y2_14), (1, .int y1_7), (0, .ref h0)]), W p l e ({ frames := 1, cells := 0, slots := 0, locals := 23 } : Room) s m args below meth c H locs 0 0 QQ (F0 m 35 ls []) := by
                intro n17
                induction n17 with
                | zero => intro y2_14 f15 hm; exact absurd hm (Nat.not_lt_zero _)
                | succ n17 ih35 =>
                  intro y2_14 f15 hm g16 inv35_0 inv35_1 H locs hH va vtk vmf hS ls hl
                  refine lv_iload_n hx hb dX6_fillMost_35 rfl (lv_at hl 0 rfl) ?_
                  refine lv_sipush (v := 128) hx hb dX6_fillMost_36 (by decide) ?_
                  refine lv_icmp_ge (tgt := 129) hx hb dX6_fillMost_39 (by decide) (fun c18 => ?_) (fun c18 => ?_)
                  · have b19 : 128 ≤ y2_14.toInt := hw_ile c18
                    obtain ⟨x20, e21⟩ : ∃ y : Int32, y = y1_7 + (-1) := ⟨_, rfl⟩
                    refine lv_iinc (v := x20) (lv' := [(1, .int x20), (2, .int y2_14), (0, .ref h0)]) hx hb dX6_fillMost_129 hl (k := 1) rfl (by rw [e21]; rfl) (by decide) rfl (fun ls hl => ?_)
                    have t22 : x20.toInt = y1_7.toInt + (-1) := by rw [e21]; exact hw_add rfl rfl (by omega) (by omega)
                    refine lv_goto (tgt := 29) hx hb dX6_fillMost_132 (by decide) ?_
                    exact ih29 x20 f15 (by first | omega | omega) ⟨by first | decide | omega, by first | decide | omega⟩ (by intro h9; have h8 := inv35_0 h9; have h7 := inv35_1 h9; intro j h1 h2; rcases Nat.lt_or_ge j (128 * (y1_7.toInt + 1)).toNat with h3 | h3; exact h7 j (by omega) (by rw [hw_cl (x := y2_14) (n := 128) (by omega)]; omega); exact h8 j h3 h2) _ _ hH va vtk vmf hS _ (lv_sub hl [0, 2] rfl)
                  · have b23 : y2_14.toInt < 128 := hw_inle c18
                    refine lv_aload_n hx hb dX6_fillMost_42 rfl (lv_at hl 2 rfl) ?_
                    refine hw_get hx hb fg_15_5 hK va rfl dX6_fillMost_43 ?_
                    refine lv_iload_n hx hb dX6_fillMost_46 rfl (lv_at hl 1 rfl) ?_
                    refine lv_iconst (v := 1) hx hb dX6_fillMost_47 (by decide) ?_
                    refine lv_iadd hx hb dX6_fillMost_48 ?_
                    refine lv_topi (fun x24 e25 => ?_)
                    have t26 : x24.toInt = y1_7.toInt + 1 := by rw [e25]; exact hw_add rfl rfl (by omega) (by omega)
                    refine lv_sipush (v := 128) hx hb dX6_fillMost_49 (by decide) ?_
                    refine lv_imul hx hb dX6_fillMost_52 ?_
                    refine lv_topi (fun x27 e28 => ?_)
                    have t29 : x27.toInt = x24.toInt * 128 := by rw [e28]; exact hw_mul rfl rfl (by omega) (by omega)
                    refine lv_iload_n hx hb dX6_fillMost_53 rfl (lv_at hl 0 rfl) ?_
                    refine lv_iadd hx hb dX6_fillMost_54 ?_
                    refine lv_topi (fun x30 e31 => ?_)
                    have t32 : x30.toInt = x27.toInt + y2_14.toInt := by rw [e31]; exact hw_add rfl rfl (by omega) (by omega)
                    refine hw_iald hx hb hK vmf (hw_in (by omega) (by omega)) dX6_fillMost_55 ?_
                    refine lv_topi (fun x33 e34 => ?_)
                    refine lv_istore_n (lv' := [(3, .int x33), (2, .int y2_14), (1, .int y1_7), (0, .ref h0)]) hx hb dX6_fillMost_56 rfl hl (by decide) rfl (fun ls hl => ?_)
                    refine lv_iconst (v := 0) hx hb dX6_fillMost_57 (by decide) ?_
                    refine lv_istore (lv' := [(4, .int 0), (3, .int x33), (2, .int y2_14), (1, .int y1_7), (0, .ref h0)]) hx hb dX6_fillMost_58 hl (by decide) rfl (fun ls hl => ?_)
                    have L60 : ∀ (n38 : Nat) (y4_35 : Int32) (y3_36 : Int32) (hm : (7 - y4_35.toInt).toNat < n38) (g37 : 0 ≤ y4_35.toInt ∧ y4_35.toInt ≤ 7) (inv60_0 : (∀ j, j < 7 → ftk j = 0) → y3_36.toInt = 0) (H : Heap) (locs : List Loc) (hH : hw_HT D G H) (va : va_at D.1 vwCl (h0, .inr (5, hw_LP ra pa_a)) H) (vtk : va_at D.1 vwCl ((ra 0), .inl (D.2.1 0, 7, .inl ftk)) H) (vmf : va_at D.1 vwCl ((ra 1), .inl (D.2.1 0, 1024, .inl f15)) H) (hS : va_S (hw_AW G [14] s.heap.size) s.heap H locs) (ls : Array Slot) (hl : lv_has ls 5 [(4, .int y4_35), (3, .int y3_36), (2, .int y2_14), (1, .int y1_7), (0, .ref h0)]), W p l e ({ frames := 1, cells := 0, slots := 0, locals := 23 } : Room) s m args below meth c H locs 0 0 QQ (F0 m 60 ls []) := by
                      intro n38
                      induction n38 with
                      | zero => intro y4_35 y3_36 hm; exact absurd hm (Nat.not_lt_zero _)
                      | succ n38 ih60 =>
                        intro y4_35 y3_36 hm g37 inv60_0 H locs hH va vtk vmf hS ls hl
                        refine lv_iload hx hb dX6_fillMost_60 (lv_at hl 0 rfl) ?_
                        refine lv_bipush (v := 7) hx hb dX6_fillMost_62 (by decide) ?_
                        refine lv_icmp_ge (tgt := 110) hx hb dX6_fillMost_64 (by decide) (fun c39 => ?_) (fun c39 => ?_)
                        · have b40 : 7 ≤ y4_35.toInt := hw_ile c39
                          refine lv_aload_n hx hb dX6_fillMost_110 rfl (lv_at hl 4 rfl) ?_
                          refine hw_get hx hb fg_15_5 hK va rfl dX6_fillMost_111 ?_
                          refine lv_iload_n hx hb dX6_fillMost_114 rfl (lv_at hl 3 rfl) ?_
                          refine lv_sipush (v := 128) hx hb dX6_fillMost_115 (by decide) ?_
                          refine lv_imul hx hb dX6_fillMost_118 ?_
                          refine lv_topi (fun x41 e42 => ?_)
                          have t43 : x41.toInt = y1_7.toInt * 128 := by rw [e42]; exact hw_mul rfl rfl (by omega) (by omega)
                          refine lv_iload_n hx hb dX6_fillMost_119 rfl (lv_at hl 2 rfl) ?_
                          refine lv_iadd hx hb dX6_fillMost_120 ?_
                          refine lv_topi (fun x44 e45 => ?_)
                          have t46 : x44.toInt = x41.toInt + y2_14.toInt := by rw [e45]; exact hw_add rfl rfl (by omega) (by omega)
                          refine lv_iload_n hx hb dX6_fillMost_121 rfl (lv_at hl 1 rfl) ?_
                          refine hw_iast hx hb hK hH vmf (hw_in (by omega) (by omega)) (fun _ => by rw [(hw_RP_1 Ra)]; exact ⟨_, rfl⟩) hS (hw_AWi (hw_RP_1 Ra) (by decide)) dX6_fillMost_122 (fun H locs hH vmf oq hz hS => ?_)
                          have va := va_at.kept va (oq _ (hw_ne G0 (hw_RP_1 Ra) (by decide)))
                          have vtk := va_at.kept vtk (oq _ (hw_ne (hw_RP_0 Ra) (hw_RP_1 Ra) (by decide)))
                          obtain ⟨f47, e48⟩ : ∃ z, z = upd f15 x44.toNatClampNeg y3_36 := ⟨_, rfl⟩
                          rw [← e48] at vmf
                          obtain ⟨x49, e50⟩ : ∃ y : Int32, y = y2_14 + 1 := ⟨_, rfl⟩
                          refine lv_iinc (v := x49) (lv' := [(2, .int x49), (4, .int y4_35), (3, .int y3_36), (1, .int y1_7), (0, .ref h0)]) hx hb dX6_fillMost_123 hl (k := 2) rfl (by rw [e50]; rfl) (by decide) rfl (fun ls hl => ?_)
                          have t51 : x49.toInt = y2_14.toInt + 1 := by rw [e50]; exact hw_add rfl rfl (by omega) (by omega)
                          refine lv_goto (tgt := 35) hx hb dX6_fillMost_126 (by decide) ?_
                          exact ih35 x49 f47 (by first | omega | omega) ⟨by first | decide | omega, by first | decide | omega⟩ (by intro h9; rw [e48]; exact hw_zr_any (inv35_0 h9) (hw_z (inv60_0 h9))) (by intro h9; rw [e48, hw_cls (x := y2_14) (y := x49) (by omega) (by omega)]; refine hw_zr_up (inv35_1 h9) (hw_z (inv60_0 h9)) ?_; rw [hw_tc, hw_tc]; (try simp only [Nat.add_eq]); omega) _ _ hH va vtk vmf hS _ (lv_sub hl [0, 3, 4] rfl)
                        · have b52 : y4_35.toInt < 7 := hw_inle c39
                          refine lv_aload_n hx hb dX6_fillMost_67 rfl (lv_at hl 4 rfl) ?_
                          refine lv_iload hx hb dX6_fillMost_68 (lv_at hl 0 rfl) ?_
                          refine lv_iload_n hx hb dX6_fillMost_70 rfl (lv_at hl 3 rfl) ?_
                          refine lv_iload_n hx hb dX6_fillMost_71 rfl (lv_at hl 2 rfl) ?_
                          refine hw_cR (va_runV (As := [.int y4_35, .int y1_7, .int y2_14]) (rest := []) ⟨hx, hb, hml, hown, hts⟩ (k2_X6_isFree l D G h0 y4_35 y1_7 y2_14 _ ra pa_a ftk G0 Ra (by first | assumption | decide | omega)) (cwV 3 hts gX6_fillMost_X6_isFree rfl rfl rfl (by decide +kernel) ⟨Nat.le_of_ble_eq_true rfl, Nat.le_of_ble_eq_true rfl⟩) (hw_pV (hw_rc (q := (RX6, TX6, 7)) hK va rfl) hH hK hST hS (by decide) (fun _ h => Or.inl h) ⟨va, vtk⟩) rfl rfl hl.1 rfl (lv_room (Nat.le_of_ble_eq_true rfl)) dX6_fillMost_72 ⟨Nat.le_of_ble_eq_true rfl, Nat.le_of_ble_eq_true rfl⟩) (fun v hp => ?_)
                          rcases hp with ⟨rfl, q53⟩ | rfl
                          · have hfr := q53
                            refine lv_if_eq (tgt := 104) hx hb dX6_fillMost_75 (by decide) (fun c54 => ?_) (fun c54 => ?_)
                            · exact absurd c54 (by decide)
                            · refine lv_iload_n hx hb dX6_fillMost_78 rfl (lv_at hl 1 rfl) ?_
                              refine lv_iconst (v := 1) hx hb dX6_fillMost_79 (by decide) ?_
                              refine lv_aload_n hx hb dX6_fillMost_80 rfl (lv_at hl 4 rfl) ?_
                              refine hw_get hx hb fg_15_5 hK va rfl dX6_fillMost_81 ?_
                              refine lv_iload_n hx hb dX6_fillMost_84 rfl (lv_at hl 3 rfl) ?_
                              refine lv_iconst (v := 1) hx hb dX6_fillMost_85 (by decide) ?_
                              refine lv_iadd hx hb dX6_fillMost_86 ?_
                              refine lv_topi (fun x55 e56 => ?_)
                              have t57 : x55.toInt = y1_7.toInt + 1 := by rw [e56]; exact hw_add rfl rfl (by omega) (by omega)
                              refine lv_sipush (v := 128) hx hb dX6_fillMost_87 (by decide) ?_
                              refine lv_imul hx hb dX6_fillMost_90 ?_
                              refine lv_topi (fun x58 e59 => ?_)
                              have t60 : x58.toInt = x55.toInt * 128 := by rw [e59]; exact hw_mul rfl rfl (by omega) (by omega)
                              refine lv_iload_n hx hb dX6_fillMost_91 rfl (lv_at hl 2 rfl) ?_
                              refine lv_iconst (v := 1) hx hb dX6_fillMost_92 (by decide) ?_
                              refine lv_iload hx hb dX6_fillMost_93 (lv_at hl 0 rfl) ?_
                              refine lv_ishl hx hb dX6_fillMost_95 ?_
                              refine lv_topi (fun x61 e62 => ?_)
                              have t63 : 1 ≤ x61.toInt ∧ x61.toInt ≤ 64 := by rw [e62]; exact hw_sh1b 6 (by decide) (by first | decide | omega) (by first | decide | omega)
                              refine lv_ior hx hb dX6_fillMost_96 ?_
                              refine lv_topi (fun x64 e65 => ?_)
                              have t66 : 0 ≤ x64.toInt ∧ x64.toInt < 128 := by rw [e65]; exact hw_ior (k := 7) (by decide) (by first | decide | omega) (by first | decide | omega) (by first | decide | omega) (by first | decide | omega)
                              refine lv_iadd hx hb dX6_fillMost_97 ?_
                              refine lv_topi (fun x67 e68 => ?_)
                              have t69 : x67.toInt = x58.toInt + x64.toInt := by rw [e68]; exact hw_add rfl rfl (by omega) (by omega)
                              refine hw_iald hx hb hK vmf (hw_in (by omega) (by omega)) dX6_fillMost_98 ?_
                              refine lv_topi (fun x70 e71 => ?_)
                              refine lv_iadd hx hb dX6_fillMost_99 ?_
                              refine lv_topi (fun x72 e73 => ?_)
                              refine va_mmax hx hb (hml.trans hl.1.symm) hown (hts (.methodLink RX6 45 Lib.Math.max.name) (by decide +kernel)) (hts (.static Lib.Math.max.name) (by decide +kernel)) (hts (.initialized "java/lang/Math") (by decide +kernel)) (hts (.code Lib.Math.max.name Lib.Math.max.code 2 (some .int)) (by decide +kernel)) (Nat.le_of_ble_eq_true rfl) (Nat.le_of_ble_eq_true rfl) (Nat.le_of_ble_eq_true rfl) (Nat.le_of_ble_eq_true rfl) dX6_fillMost_100 ?_
                              refine lv_topi (fun x74 e75 => ?_)
                              have t76 : x74.toInt = max y3_36.toInt x72.toInt := by rw [e75]; exact hw_max rfl rfl
                              refine lv_istore_n (lv' := [(3, .int x74), (4, .int y4_35), (2, .int y2_14), (1, .int y1_7), (0, .ref h0)]) hx hb dX6_fillMost_103 rfl hl (by decide) rfl (fun ls hl => ?_)
                              obtain ⟨x77, e78⟩ : ∃ y : Int32, y = y4_35 + 1 := ⟨_, rfl⟩
                              refine lv_iinc (v := x77) (lv' := [(4, .int x77), (3, .int x74), (2, .int y2_14), (1, .int y1_7), (0, .ref h0)]) hx hb dX6_fillMost_104 hl (k := 1) rfl (by rw [e78]; rfl) (by decide) rfl (fun ls hl => ?_)
                              have t79 : x77.toInt = y4_35.toInt + 1 := by rw [e78]; exact hw_add rfl rfl (by omega) (by omega)
                              refine lv_goto (tgt := 60) hx hb dX6_fillMost_107 (by decide) ?_
                              exact ih60 x77 x74 (by first | omega | omega) ⟨by first | decide | omega, by first | decide | omega⟩ (by intro h9; first | exact inv60_0 h9 | exact absurd (by rw [h9 _ (by rw [hw_tc]; omega)]; rfl) hfr) _ _ hH va vtk vmf hS _ (lv_sub hl [0, 1, 2, 3, 4] rfl)
                          · refine lv_if_eq (tgt := 104) hx hb dX6_fillMost_75 (by decide) (fun c80 => ?_) (fun c80 => ?_)
                            · obtain ⟨x81, e82⟩ : ∃ y : Int32, y = y4_35 + 1 := ⟨_, rfl⟩
                              refine lv_iinc (v := x81) (lv' := [(4, .int x81), (3, .int y3_36), (2, .int y2_14), (1, .int y1_7), (0, .ref h0)]) hx hb dX6_fillMost_104 hl (k := 0) rfl (by rw [e82]; rfl) (by decide) rfl (fun ls hl => ?_)
                              have t83 : x81.toInt = y4_35.toInt + 1 := by rw [e82]; exact hw_add rfl rfl (by omega) (by omega)
                              refine lv_goto (tgt := 60) hx hb dX6_fillMost_107 (by decide) ?_
                              exact ih60 x81 y3_36 (by first | omega | omega) ⟨by first | decide | omega, by first | decide | omega⟩ (by intro h9; first | exact inv60_0 h9 | exact absurd (by rw [h9 _ (by rw [hw_tc]; omega)]; rfl) hfr) _ _ hH va vtk vmf hS _ (lv_sub hl [0, 1, 2, 3, 4] rfl)
                            · exact absurd c80 (by decide)
                    exact L60 _ 0 x33 (Nat.lt_succ_self _) ⟨by first | decide | omega, by first | decide | omega⟩ (by intro h9; rw [e34, inv35_0 h9 _ (by rw [hw_tc]; omega) (by rw [hw_tc]; omega)]; rfl) _ _ hH va vtk vmf hS _ (lv_sub hl [0, 1, 2, 3, 4] rfl)
              exact L35 _ 0 f8 (Nat.lt_succ_self _) ⟨by first | decide | omega, by first | decide | omega⟩ (by intro h9; exact inv29_0 h9) (by intro _ j h1 h2; exfalso; have h3 : (0 : Int32).toNatClampNeg = 0 := rfl; omega) _ _ hH va vtk vmf hS _ (lv_sub hl [0, 1, 2] rfl)
        exact L29 _ 6 f2 (Nat.lt_succ_self _) ⟨by first | decide | omega, by first | decide | omega⟩ (by intro _; exact hw_zr_eq hz (by decide) rfl) _ _ hH va vtk vmf hS _ (lv_sub hl [0, 1] rfl)
      · have b84 : y1_1.toInt < 128 := hw_inle c5
        refine lv_aload_n hx hb dX6_fillMost_9 rfl (lv_at hl 1 rfl) ?_
        refine hw_get hx hb fg_15_5 hK va rfl dX6_fillMost_10 ?_
        refine lv_sipush (v := 896) hx hb dX6_fillMost_13 (by decide) ?_
        refine lv_iload_n hx hb dX6_fillMost_16 rfl (lv_at hl 0 rfl) ?_
        refine lv_iadd hx hb dX6_fillMost_17 ?_
        refine lv_topi (fun x85 e86 => ?_)
        have t87 : x85.toInt = 896 + y1_1.toInt := by rw [e86]; exact hw_add rfl rfl (by omega) (by omega)
        refine lv_iconst (v := 0) hx hb dX6_fillMost_18 (by decide) ?_
        refine hw_iast hx hb hK hH vmf (hw_in (by omega) (by omega)) (fun _ => by rw [(hw_RP_1 Ra)]; exact ⟨_, rfl⟩) hS (hw_AWi (hw_RP_1 Ra) (by decide)) dX6_fillMost_19 (fun H locs hH vmf oq hz hS => ?_)
        have va := va_at.kept va (oq _ (hw_ne G0 (hw_RP_1 Ra) (by decide)))
        have vtk := va_at.kept vtk (oq _ (hw_ne (hw_RP_0 Ra) (hw_RP_1 Ra) (by decide)))
        obtain ⟨f88, e89⟩ : ∃ z, z = upd f2 x85.toNatClampNeg 0 := ⟨_, rfl⟩
        rw [← e89] at vmf
        obtain ⟨x90, e91⟩ : ∃ y : Int32, y = y1_1 + 1 := ⟨_, rfl⟩
        refine lv_iinc (v := x90) (lv' := [(1, .int x90), (0, .ref h0)]) hx hb dX6_fillMost_20 hl (k := 0) rfl (by rw [e91]; rfl) (by decide) rfl (fun ls hl => ?_)
        have t92 : x90.toInt = y1_1.toInt + 1 := by rw [e91]; exact hw_add rfl rfl (by omega) (by omega)
        refine lv_goto (tgt := 2) hx hb dX6_fillMost_23 (by decide) ?_
        exact ih2 x90 f88 (by first | omega | omega) ⟨by first | decide | omega, by first | decide | omega⟩ (by rw [e89, hw_cls (x := y1_1) (y := x90) (by omega) (by omega)]; refine hw_zr_up inv2_0 rfl ?_; rw [hw_tc, hw_tc]; (try simp only [Nat.add_eq]); omega) _ _ hH va vtk vmf hS _ (lv_sub hl [0, 1] rfl)
  exact L2 _ 0 fmf (Nat.lt_succ_self _) ⟨by first | decide | omega, by first | decide | omega⟩ (by intro j h1 h2; exfalso; have h3 : (0 : Int32).toNatClampNeg = 0 := rfl; omega) _ _ hH va vtk vmf hS _ (lv_sub hl [0, 1] rfl)

set_option maxHeartbeats 4000000 in
set_option maxRecDepth 100000 in
theorem k2_X6_pairUp (l : Launch) (D : hw_D) (G : Nat → Nat) (h0 : Nat) (sz : Nat) (ra : Nat → Nat) (pa_a : Int32) (ftk : Nat → Int32) (fmf : Nat → Int32) (G0 : G h0 = 5) (Ra : hw_RP G ra) : Met l yX6_pairUp wsX6_pairUp ({ frames := 2, cells := 0, slots := 0, locals := 47 } : Room) (hw_PC D G [.ref h0] sz (fun H => va_at D.1 vwCl (h0, .inr (5, hw_LP ra pa_a)) H ∧ va_at D.1 vwCl ((ra 0), .inl (D.2.1 0, 7, .inl ftk)) H ∧ va_at D.1 vwCl ((ra 1), .inl (D.2.1 0, 1024, .inl fmf)) H)) (hw_QM (fun v H => ∃ (pa_a2 : Int32) (fmf2 : Nat → Int32), v = none ∧ hw_HT D G H ∧ va_at D.1 vwCl (h0, .inr (5, hw_LP ra pa_a2)) H ∧ va_at D.1 vwCl ((ra 0), .inl (D.2.1 0, 7, .inl ftk)) H ∧ va_at D.1 vwCl ((ra 1), .inl (D.2.1 0, 1024, .inl fmf2)) H ∧ ((∀ j, j < 7 → ftk j = 0) → pa_a2.toInt = 0)) (hw_AW G [5, 14, 15] sz)) 0 0 (hw_AW G [5, 14, 15] sz) := by
  refine hw_met (cc := cX6_pairUp) (maxL := 3) (ret := none) (plainFor_of_name (by decide)) rfl (Nat.le_of_ble_eq_true rfl) ?_
  intro p e s m args below meth c QQ ls hsz hx hb hml hr hts hown hlocks hnm hH hK hST hF hQ hl
  subst hsz
  have hS : va_S (hw_AW G [5, 14, 15] s.heap.size) s.heap s.heap [] := va_S.rf
  obtain ⟨va, vtk, vmf⟩ := hF
  have hl : lv_has ls 3 [(0, .ref h0)] := hl
  have u_5 : ∀ w ∈ u_ws RX6 TX6 7, w.before args s = true := fun w hw => hts w ((by decide +kernel : ∀ w ∈ u_ws RX6 TX6 7, w ∈ wsX6_pairUp) w hw)
  have fg_15_5 : hw_FG s args m 15 5 1 := ⟨RX6, "WardWalkers$Planner", RX6, TX6, 7, u_5, hown, rfl, by decide, (hts (.fieldLink RX6 15 "WardWalkers$Planner" "mostFrom" "[I") (by decide +kernel)), (fun _ h9 => h9)⟩
  have fp_33_5 : hw_FP s args m 33 5 3 false .int := ⟨RX6, "WardWalkers$Planner", RX6, TX6, 7, tyX6, u_5, hown, rfl, by decide, (hts (.fieldLink RX6 33 "WardWalkers$Planner" "pairs" "I") (by decide +kernel)), (fun _ h9 => h9), tyX6_ok, nmX6, rfl, (fun h => by cases h), by decide +kernel⟩
  have fg_18_5 : hw_FG s args m 18 5 2 := ⟨RX6, "WardWalkers$Planner", RX6, TX6, 7, u_5, hown, rfl, by decide, (hts (.fieldLink RX6 18 "WardWalkers$Planner" "chosen" "[I") (by decide +kernel)), (fun _ h9 => h9)⟩
  refine lv_aload_n hx hb dX6_pairUp_0 rfl (lv_at hl 0 rfl) ?_
  refine hw_cM0 (va_runV (As := []) (rest := []) ⟨hx, hb, hml, hown, hts⟩ (k2_X6_fillMost l D G h0 _ ra pa_a ftk fmf G0 Ra) (cwV 0 hts gX6_pairUp_X6_fillMost rfl rfl rfl (by decide +kernel) ⟨Nat.le_of_ble_eq_true rfl, Nat.le_of_ble_eq_true rfl⟩) (hw_pV (hw_rc (q := (RX6, TX6, 7)) hK va rfl) hH hK hST hS (by decide) (fun _ h => Or.inl h) ⟨va, vtk, vmf⟩) rfl rfl hl.1 rfl (lv_room (Nat.le_of_ble_eq_true rfl)) dX6_pairUp_1 ⟨Nat.le_of_ble_eq_true rfl, Nat.le_of_ble_eq_true rfl⟩) hS (hw_AWsub (by decide) (fun _ _ => rfl) hS.1) (fun v H locs hp hz hk hS => ?_)
  obtain ⟨f1, rfl, hH, v2, v3, v4, q5⟩ := hp
  have hmf := q5
  refine lv_aload_n hx hb dX6_pairUp_4 rfl (lv_at hl 0 rfl) ?_
  refine lv_aload_n hx hb dX6_pairUp_5 rfl (lv_at hl 0 rfl) ?_
  refine hw_get hx hb fg_15_5 hK v2 rfl dX6_pairUp_6 ?_
  refine lv_iconst (v := 0) hx hb dX6_pairUp_9 (by decide) ?_
  refine hw_iald hx hb hK v4 (hw_in (x := 0) (by decide) (by decide)) dX6_pairUp_10 ?_
  refine lv_topi (fun x6 e7 => ?_)
  refine hw_put (v := .int x6) (fs' := hw_LP ra x6) hx hb fp_33_5 hK hH v2 (Nat.le_of_ble_eq_true rfl) rfl rfl rfl (fun _ => by rw [G0]; exact ⟨ra, x6, rfl, Ra⟩) hS (hw_AWi G0 (by decide)) dX6_pairUp_11 (fun H locs hH v2 oq hz hS => ?_)
  have v3 := va_at.kept v3 (oq _ (hw_ne (hw_RP_0 Ra) G0 (by decide)))
  have v4 := va_at.kept v4 (oq _ (hw_ne (hw_RP_1 Ra) G0 (by decide)))
  have hpa : (∀ j, j < 7 → ftk j = 0) → x6.toInt = 0 := by intro h9; rw [e7]; show (f1 0).toInt = 0; rw [hmf h9]; rfl
  refine lv_iconst (v := 0) hx hb dX6_pairUp_14 (by decide) ?_
  refine lv_istore_n (lv' := [(1, .int 0), (0, .ref h0)]) hx hb dX6_pairUp_15 rfl hl (by decide) rfl (fun ls hl => ?_)
  refine lv_iconst (v := 0) hx hb dX6_pairUp_16 (by decide) ?_
  refine lv_istore_n (lv' := [(2, .int 0), (1, .int 0), (0, .ref h0)]) hx hb dX6_pairUp_17 rfl hl (by decide) rfl (fun ls hl => ?_)
  have L18 : ∀ (n12 : Nat) (y2_8 : Int32) (y1_9 : Int32) (hm : (7 - y2_8.toInt).toNat < n12) (g10 : 0 ≤ y1_9.toInt ∧ y1_9.toInt ≤ 127) (g11 : 0 ≤ y2_8.toInt ∧ y2_8.toInt ≤ 7) (H : Heap) (locs : List Loc) (hH : hw_HT D G H) (v2 : va_at D.1 vwCl (h0, .inr (5, hw_LP ra x6)) H) (v3 : va_at D.1 vwCl ((ra 0), .inl (D.2.1 0, 7, .inl ftk)) H) (v4 : va_at D.1 vwCl ((ra 1), .inl (D.2.1 0, 1024, .inl f1)) H) (hS : va_S (hw_AW G [5, 14, 15] s.heap.size) s.heap H locs) (ls : Array Slot) (hl : lv_has ls 3 [(2, .int y2_8), (1, .int y1_9), (0, .ref h0)]), W p l e ({ frames := 2, cells := 0, slots := 0, locals := 47 } : Room) s m args below meth c H locs 0 0 QQ (F0 m 18 ls []) := by
    intro n12
    induction n12 with
    | zero => intro y2_8 y1_9 hm; exact absurd hm (Nat.not_lt_zero _)
    | succ n12 ih18 =>
      intro y2_8 y1_9 hm g10 g11 H locs hH v2 v3 v4 hS ls hl
      refine lv_iload_n hx hb dX6_pairUp_18 rfl (lv_at hl 0 rfl) ?_
      refine lv_bipush (v := 7) hx hb dX6_pairUp_19 (by decide) ?_
      refine lv_icmp_ge (tgt := 63) hx hb dX6_pairUp_21 (by decide) (fun c13 => ?_) (fun c13 => ?_)
      · have b14 : 7 ≤ y2_8.toInt := hw_ile c13
        exact hw_vretM hx hb hr hlocks hQ hS (⟨x6, f1, rfl, hH, v2, v3, v4, (by exact hpa)⟩) dX6_pairUp_63
      · have b15 : y2_8.toInt < 7 := hw_inle c13
        refine lv_aload_n hx hb dX6_pairUp_24 rfl (lv_at hl 2 rfl) ?_
        refine hw_get hx hb fg_18_5 hK v2 rfl dX6_pairUp_25 ?_
        refine lv_iload_n hx hb dX6_pairUp_28 rfl (lv_at hl 0 rfl) ?_
        refine lv_aload_n hx hb dX6_pairUp_29 rfl (lv_at hl 2 rfl) ?_
        refine lv_iload_n hx hb dX6_pairUp_30 rfl (lv_at hl 0 rfl) ?_
        refine lv_iload_n hx hb dX6_pairUp_31 rfl (lv_at hl 1 rfl) ?_
        refine hw_cR (va_runV (As := [.int y2_8, .int y1_9]) (rest := [.int y2_8, .ref (ra 2)]) ⟨hx, hb, hml, hown, hts⟩ (k_X6_firstKeyFor l D G h0 y2_8 y1_9 _ G0 (by first | assumption | decide | omega) (by first | assumption | decide | omega)) (cwV 2 hts gX6_pairUp_X6_firstKeyFor rfl rfl rfl (by decide +kernel) ⟨Nat.le_of_ble_eq_true rfl, Nat.le_of_ble_eq_true rfl⟩) (hw_pV (hw_rc (q := (RX6, TX6, 7)) hK v2 rfl) hH hK hST hS (by decide) (fun _ h => Or.inl h) trivial) rfl rfl hl.1 rfl (lv_room (Nat.le_of_ble_eq_true rfl)) dX6_pairUp_32 ⟨Nat.le_of_ble_eq_true rfl, Nat.le_of_ble_eq_true rfl⟩) (fun v hp => ?_)
        obtain ⟨x16, rfl, g17⟩ := hp
        obtain ⟨f18, v19, q20⟩ := hH.a15 (hw_RP_2 Ra)
        refine hw_iast hx hb hK hH v19 (hw_in (by omega) (by omega)) (fun _ => by rw [(hw_RP_2 Ra)]; refine ⟨_, rfl, fun j hj => ?_⟩; unfold upd; split; exact ⟨by first | decide | omega, by first | decide | omega⟩; exact q20 j hj) hS (hw_AWi (hw_RP_2 Ra) (by decide)) dX6_pairUp_35 (fun H locs hH v19 oq hz hS => ?_)
        have v2 := va_at.kept v2 (oq _ (hw_ne G0 (hw_RP_2 Ra) (by decide)))
        have v3 := va_at.kept v3 (oq _ (hw_ne (hw_RP_0 Ra) (hw_RP_2 Ra) (by decide)))
        have v4 := va_at.kept v4 (oq _ (hw_ne (hw_RP_1 Ra) (hw_RP_2 Ra) (by decide)))
        obtain ⟨f21, v22, q23⟩ := hH.a15 (hw_RP_2 Ra)
        refine lv_aload_n hx hb dX6_pairUp_36 rfl (lv_at hl 2 rfl) ?_
        refine hw_get hx hb fg_18_5 hK v2 rfl dX6_pairUp_37 ?_
        refine lv_iload_n hx hb dX6_pairUp_40 rfl (lv_at hl 0 rfl) ?_
        refine hw_iald hx hb hK v22 (hw_in (by omega) (by omega)) dX6_pairUp_41 ?_
        refine lv_topi (fun x24 e25 => ?_)
        have n27 : vp_in y2_8 7 := (hw_in (by omega) (by omega))
        have t26 : (-1) ≤ x24.toInt ∧ x24.toInt ≤ 6 := by rw [e25]; exact q23 _ (Nat.not_le.mp fun q => n27 (Or.inr q))
        refine lv_iconst (v := (-1)) hx hb dX6_pairUp_42 (by decide) ?_
        refine lv_icmp_eq (tgt := 57) hx hb dX6_pairUp_43 (by decide) (fun c28 => ?_) (fun c28 => ?_)
        · have b29 : x24.toInt = (-1) := hw_ieq c28
          obtain ⟨x30, e31⟩ : ∃ y : Int32, y = y2_8 + 1 := ⟨_, rfl⟩
          refine lv_iinc (v := x30) (lv' := [(2, .int x30), (1, .int y1_9), (0, .ref h0)]) hx hb dX6_pairUp_57 hl (k := 0) rfl (by rw [e31]; rfl) (by decide) rfl (fun ls hl => ?_)
          have t32 : x30.toInt = y2_8.toInt + 1 := by rw [e31]; exact hw_add rfl rfl (by omega) (by omega)
          refine lv_goto (tgt := 18) hx hb dX6_pairUp_60 (by decide) ?_
          exact ih18 x30 y1_9 (by first | omega | omega) ⟨by first | decide | omega, by first | decide | omega⟩ ⟨by first | decide | omega, by first | decide | omega⟩ _ _ hH v2 v3 v4 hS _ (lv_sub hl [0, 1, 2] rfl)
        · have b33 : x24.toInt ≠ (-1) := hw_ine c28
          refine lv_iload_n hx hb dX6_pairUp_46 rfl (lv_at hl 1 rfl) ?_
          refine lv_iconst (v := 1) hx hb dX6_pairUp_47 (by decide) ?_
          refine lv_aload_n hx hb dX6_pairUp_48 rfl (lv_at hl 2 rfl) ?_
          refine hw_get hx hb fg_18_5 hK v2 rfl dX6_pairUp_49 ?_
          refine lv_iload_n hx hb dX6_pairUp_52 rfl (lv_at hl 0 rfl) ?_
          refine hw_iald hx hb hK v22 (hw_in (by omega) (by omega)) dX6_pairUp_53 ?_
          refine lv_topi (fun x34 e35 => ?_)
          have t36 : x34.toInt = x24.toInt := by rw [e35, e25]
          have n38 : vp_in y2_8 7 := (hw_in (by omega) (by omega))
          have t37 : (-1) ≤ x34.toInt ∧ x34.toInt ≤ 6 := by rw [e35]; exact q23 _ (Nat.not_le.mp fun q => n38 (Or.inr q))
          refine lv_ishl hx hb dX6_pairUp_54 ?_
          refine lv_topi (fun x39 e40 => ?_)
          have t41 : 1 ≤ x39.toInt ∧ x39.toInt ≤ 64 := by rw [e40]; exact hw_sh1b 6 (by decide) (by first | decide | omega) (by first | decide | omega)
          refine lv_ior hx hb dX6_pairUp_55 ?_
          refine lv_topi (fun x42 e43 => ?_)
          have t44 : 0 ≤ x42.toInt ∧ x42.toInt < 128 := by rw [e43]; exact hw_ior (k := 7) (by decide) (by first | decide | omega) (by first | decide | omega) (by first | decide | omega) (by first | decide | omega)
          refine lv_istore_n (lv' := [(1, .int x42), (2, .int y2_8), (0, .ref h0)]) hx hb dX6_pairUp_56 rfl hl (by decide) rfl (fun ls hl => ?_)
          obtain ⟨x45, e46⟩ : ∃ y : Int32, y = y2_8 + 1 := ⟨_, rfl⟩
          refine lv_iinc (v := x45) (lv' := [(2, .int x45), (1, .int x42), (0, .ref h0)]) hx hb dX6_pairUp_57 hl (k := 1) rfl (by rw [e46]; rfl) (by decide) rfl (fun ls hl => ?_)
          have t47 : x45.toInt = y2_8.toInt + 1 := by rw [e46]; exact hw_add rfl rfl (by omega) (by omega)
          refine lv_goto (tgt := 18) hx hb dX6_pairUp_60 (by decide) ?_
          exact ih18 x45 x42 (by first | omega | omega) ⟨by first | decide | omega, by first | decide | omega⟩ ⟨by first | decide | omega, by first | decide | omega⟩ _ _ hH v2 v3 v4 hS _ (lv_sub hl [0, 1, 2] rfl)
  exact L18 _ 0 0 (Nat.lt_succ_self _) ⟨by first | decide | omega, by first | decide | omega⟩ ⟨by first | decide | omega, by first | decide | omega⟩ _ _ hH v2 v3 v4 hS _ (lv_sub hl [0, 1, 2] rfl)

set_option maxHeartbeats 4000000 in
set_option maxRecDepth 100000 in
theorem k2_X11_match (l : Launch) (D : hw_D) (G : Nat → Nat) (h0 : Nat) (p1 : Int32) (sz : Nat) (rx : Nat → Nat) (pn_x pc_x ks_x sc_x : Int32) (rc : Nat → Nat) (kc_c lc_c wc_c dk_c : Int32) (rp : Nat → Nat) (pa_p : Int32) (ftk : Nat → Int32) (G0 : G h0 = 1) (Rx : hw_RX G rx) (gsc_x : 0 ≤ sc_x.toInt ∧ sc_x.toInt ≤ 6) (Rc : hw_RC G rc) (gkc_c : 0 ≤ kc_c.toInt ∧ kc_c.toInt ≤ 7) (glc_c : 0 ≤ lc_c.toInt ∧ lc_c.toInt ≤ 7) (gwc_c : 0 ≤ wc_c.toInt ∧ wc_c.toInt ≤ 3) (Rp : hw_RP G rp) : Met l yX11_match wsX11_match ({ frames := 6, cells := 0, slots := 0, locals := 135 } : Room) (hw_PC D G [.ref h0, .int p1] sz (fun H => va_at D.1 vwCl (h0, .inr (10, hw_LX rx pn_x pc_x ks_x sc_x)) H ∧ va_at D.1 vwCl ((rx 0), .inr (1, hw_LC rc kc_c lc_c wc_c dk_c)) H ∧ va_at D.1 vwCl ((rx 12), .inr (5, hw_LP rp pa_p)) H ∧ va_at D.1 vwCl ((rp 0), .inl (D.2.1 0, 7, .inl ftk)) H)) (hw_QM (fun v H => ∃ (r : Int32) (pa_p2 : Int32) (ftk2 : Nat → Int32), v = some (.int r) ∧ hw_HT D G H ∧ va_at D.1 vwCl (h0, .inr (10, hw_LX rx pn_x pc_x ks_x sc_x)) H ∧ va_at D.1 vwCl ((rx 0), .inr (1, hw_LC rc kc_c lc_c wc_c dk_c)) H ∧ va_at D.1 vwCl ((rx 12), .inr (5, hw_LP rp pa_p2)) H ∧ va_at D.1 vwCl ((rp 0), .inl (D.2.1 0, 7, .inl ftk2)) H ∧ (lc_c.toInt = 0 → p1.toInt = -1 → r.toInt = 0) ∧ (lc_c.toInt = 0 → p1.toInt ≠ -1 → r.toInt = -2)) (hw_AW G [5, 13, 14, 15] sz)) 0 0 (hw_AW G [5, 13, 14, 15] sz) := by
  refine hw_met (cc := cX11_match) (maxL := 3) (ret := (some .int)) (plainFor_of_name (by decide)) rfl (Nat.le_of_ble_eq_true rfl) ?_
  intro p e s m args below meth c QQ ls hsz hx hb hml hr hts hown hlocks hnm hH hK hST hF hQ hl
  subst hsz
  have hS : va_S (hw_AW G [5, 13, 14, 15] s.heap.size) s.heap s.heap [] := va_S.rf
  obtain ⟨vx, vc, vp, vtk⟩ := hF
  have hl : lv_has ls 3 [(0, .ref h0), (1, .int p1)] := hl
  have u_10 : ∀ w ∈ u_ws RX11 TX11 14, w.before args s = true := fun w hw => hts w ((by decide +kernel : ∀ w ∈ u_ws RX11 TX11 14, w ∈ wsX11_match) w hw)
  have fg_51_10 : hw_FG s args m 51 10 12 := ⟨RX11, "WardWalkers", RX11, TX11, 14, u_10, hown, rfl, by decide, (hts (.fieldLink RX11 51 "WardWalkers" "planner" "LWardWalkers$Planner;") (by decide +kernel)), (fun _ h9 => h9)⟩
  have u_5 : ∀ w ∈ u_ws RX6 TX6 7, w.before args s = true := fun w hw => hts w ((by decide +kernel : ∀ w ∈ u_ws RX6 TX6 7, w ∈ wsX11_match) w hw)
  have fg_250_5 : hw_FG s args m 250 5 3 := ⟨RX11, "WardWalkers$Planner", RX6, TX6, 7, u_5, hown, rfl, by decide, (hts (.fieldLink RX11 250 "WardWalkers$Planner" "pairs" "I") (by decide +kernel)), (fun _ h9 => h9)⟩
  have fg_241_5 : hw_FG s args m 241 5 0 := ⟨RX11, "WardWalkers$Planner", RX6, TX6, 7, u_5, hown, rfl, by decide, (hts (.fieldLink RX11 241 "WardWalkers$Planner" "takers" "[I") (by decide +kernel)), (fun _ h9 => h9)⟩
  have fg_10_10 : hw_FG s args m 10 10 0 := ⟨RX11, "WardWalkers", RX11, TX11, 14, u_10, hown, rfl, by decide, (hts (.fieldLink RX11 10 "WardWalkers" "country" "LWardWalkers$Country;") (by decide +kernel)), (fun _ h9 => h9)⟩
  refine lv_iload_n hx hb dX11_match_0 rfl (lv_at hl 1 rfl) ?_
  refine lv_iconst (v := (-1)) hx hb dX11_match_1 (by decide) ?_
  refine lv_icmp_eq (tgt := 19) hx hb dX11_match_2 (by decide) (fun c1 => ?_) (fun c1 => ?_)
  · have b2 : p1.toInt = (-1) := hw_ieq c1
    refine lv_iconst (v := 0) hx hb dX11_match_19 (by decide) ?_
    refine lv_istore_n (lv' := [(2, .int 0), (0, .ref h0), (1, .int p1)]) hx hb dX11_match_20 rfl hl (by decide) rfl (fun ls hl => ?_)
    have L21 : ∀ (n6 : Nat) (y2_3 : Int32) (f4 : Nat → Int32) (hm : (7 - y2_3.toInt).toNat < n6) (g5 : 0 ≤ y2_3.toInt ∧ y2_3.toInt ≤ 7) (inv21_0 : lc_c.toInt = 0 → hw_zr f4 0 y2_3.toNatClampNeg) (H : Heap) (locs : List Loc) (hH : hw_HT D G H) (vx : va_at D.1 vwCl (h0, .inr (10, hw_LX rx pn_x pc_x ks_x sc_x)) H) (vc : va_at D.1 vwCl ((rx 0), .inr (1, hw_LC rc kc_c lc_c wc_c dk_c)) H) (vp : va_at D.1 vwCl ((rx 12), .inr (5, hw_LP rp pa_p)) H) (vtk : va_at D.1 vwCl ((rp 0), .inl (D.2.1 0, 7, .inl f4)) H) (hS : va_S (hw_AW G [5, 13, 14, 15] s.heap.size) s.heap H locs) (ls : Array Slot) (hl : lv_has ls 3 [(2, .int y2_3), (0, .ref h0), (1, .int p1)]), W p l e ({ frames := 6, cells := 0, slots := 0, locals := 135 } : Room) s m args below meth c H locs 0 0 QQ (F0 m 21 ls []) := by
      intro n6
      induction n6 with
      | zero => intro y2_3 f4 hm; exact absurd hm (Nat.not_lt_zero _)
      | succ n6 ih21 =>
        intro y2_3 f4 hm g5 inv21_0 H locs hH vx vc vp vtk hS ls hl
        refine lv_iload_n hx hb dX11_match_21 rfl (lv_at hl 0 rfl) ?_
        refine lv_bipush (v := 7) hx hb dX11_match_22 (by decide) ?_
        refine lv_icmp_ge (tgt := 47) hx hb dX11_match_24 (by decide) (fun c7 => ?_) (fun c7 => ?_)
        · have b8 : 7 ≤ y2_3.toInt := hw_ile c7
          have htk : lc_c.toInt = 0 → ∀ j, j < 7 → f4 j = 0 := by intro h9 j hj; exact inv21_0 h9 j (Nat.zero_le _) (by rw [hw_cl (x := y2_3) (n := 7) (by omega)]; exact hj)
          refine lv_aload_n hx hb dX11_match_47 rfl (lv_at hl 1 rfl) ?_
          refine hw_get hx hb fg_51_10 hK vx rfl dX11_match_48 ?_
          obtain ⟨f9, v10⟩ := hH.a14 (hw_RP_1 Rp)
          refine hw_cM0 (va_runV (As := []) (rest := []) ⟨hx, hb, hml, hown, hts⟩ (k2_X6_pairUp l D G (rx 12) _ rp pa_p f4 f9 (hw_RX_12 Rx) Rp) (cwV 0 hts gX11_match_X6_pairUp rfl rfl rfl (by decide +kernel) ⟨Nat.le_of_ble_eq_true rfl, Nat.le_of_ble_eq_true rfl⟩) (hw_pV (hw_rc (q := (RX6, TX6, 7)) hK vp rfl) hH hK hST hS (by decide) (fun _ h => Or.inl h) ⟨vp, vtk, v10⟩) rfl rfl hl.1 rfl (lv_room (Nat.le_of_ble_eq_true rfl)) dX11_match_51 ⟨Nat.le_of_ble_eq_true rfl, Nat.le_of_ble_eq_true rfl⟩) hS (hw_AWsub (by decide) (fun _ _ => rfl) hS.1) (fun v H locs hp hz hk hS => ?_)
          obtain ⟨x12, f13, rfl, hH, v14, v15, v16, q17⟩ := hp
          have vx := va_at.kept vx (hk _ (hw_lt vx) (hw_AWn G0 (by decide) (hw_lt vx)))
          have vc := va_at.kept vc (hk _ (hw_lt vc) (hw_AWn (hw_RX_0 Rx) (by decide) (hw_lt vc)))
          have hpu := q17
          refine lv_iload_n hx hb dX11_match_54 rfl (lv_at hl 2 rfl) ?_
          refine lv_iconst (v := (-1)) hx hb dX11_match_55 (by decide) ?_
          refine lv_icmp_ne (tgt := 69) hx hb dX11_match_56 (by decide) (fun c18 => ?_) (fun c18 => ?_)
          · have b19 : p1.toInt ≠ (-1) := hw_ine c18
            exfalso; omega
          · have b20 : p1.toInt = (-1) := hw_ieq c18
            refine lv_aload_n hx hb dX11_match_59 rfl (lv_at hl 1 rfl) ?_
            refine hw_get hx hb fg_51_10 hK vx rfl dX11_match_60 ?_
            refine hw_get hx hb fg_250_5 hK v14 rfl dX11_match_63 ?_
            refine lv_goto (tgt := 77) hx hb dX11_match_66 (by decide) ?_
            exact hw_iretM (v := x12) hx hb hr hlocks hQ hS rfl (⟨x12, x12, f4, rfl, hH, vx, vc, v14, v15, (by intro h9 h8; first | (exfalso; omega) | exact hpu (htk h9)), (by intro h9 h8; first | (exfalso; omega) | rfl)⟩) dX11_match_77
        · have b21 : y2_3.toInt < 7 := hw_inle c7
          refine lv_aload_n hx hb dX11_match_27 rfl (lv_at hl 1 rfl) ?_
          refine hw_get hx hb fg_51_10 hK vx rfl dX11_match_28 ?_
          refine hw_get hx hb fg_241_5 hK vp rfl dX11_match_31 ?_
          refine lv_iload_n hx hb dX11_match_34 rfl (lv_at hl 0 rfl) ?_
          refine lv_aload_n hx hb dX11_match_35 rfl (lv_at hl 1 rfl) ?_
          refine lv_iload_n hx hb dX11_match_36 rfl (lv_at hl 0 rfl) ?_
          refine hw_cR (va_runV (As := [.int y2_3]) (rest := [.int y2_3, .ref (rp 0)]) ⟨hx, hb, hml, hown, hts⟩ (k_X11_usableKeysFor l D G h0 y2_3 _ rx pn_x pc_x ks_x sc_x rc kc_c lc_c wc_c dk_c G0 Rx ⟨by first | decide | omega, by first | decide | omega⟩ Rc ⟨by first | decide | omega, by first | decide | omega⟩ ⟨by first | decide | omega, by first | decide | omega⟩ ⟨by first | decide | omega, by first | decide | omega⟩) (cwV 1 hts gX11_match_X11_usableKeysFor rfl rfl rfl (by decide +kernel) ⟨Nat.le_of_ble_eq_true rfl, Nat.le_of_ble_eq_true rfl⟩) (hw_pV (hw_rc (q := (RX11, TX11, 14)) hK vx rfl) hH hK hST hS (by decide) (fun _ h => Or.inl h) ⟨vx, vc⟩) rfl rfl hl.1 rfl (lv_room (Nat.le_of_ble_eq_true rfl)) dX11_match_37 ⟨Nat.le_of_ble_eq_true rfl, Nat.le_of_ble_eq_true rfl⟩) (fun v hp => ?_)
          obtain ⟨x22, rfl, q23⟩ := hp
          have huk := q23
          refine hw_iast hx hb hK hH vtk (hw_in (by omega) (by omega)) (fun _ => by rw [(hw_RP_0 Rp)]; exact ⟨_, rfl⟩) hS (hw_AWi (hw_RP_0 Rp) (by decide)) dX11_match_40 (fun H locs hH vtk oq hz hS => ?_)
          have vx := va_at.kept vx (oq _ (hw_ne G0 (hw_RP_0 Rp) (by decide)))
          have vc := va_at.kept vc (oq _ (hw_ne (hw_RX_0 Rx) (hw_RP_0 Rp) (by decide)))
          have vp := va_at.kept vp (oq _ (hw_ne (hw_RX_12 Rx) (hw_RP_0 Rp) (by decide)))
          obtain ⟨f24, e25⟩ : ∃ z, z = upd f4 y2_3.toNatClampNeg x22 := ⟨_, rfl⟩
          rw [← e25] at vtk
          obtain ⟨x26, e27⟩ : ∃ y : Int32, y = y2_3 + 1 := ⟨_, rfl⟩
          refine lv_iinc (v := x26) (lv' := [(2, .int x26), (0, .ref h0), (1, .int p1)]) hx hb dX11_match_41 hl (k := 0) rfl (by rw [e27]; rfl) (by decide) rfl (fun ls hl => ?_)
          have t28 : x26.toInt = y2_3.toInt + 1 := by rw [e27]; exact hw_add rfl rfl (by omega) (by omega)
          refine lv_goto (tgt := 21) hx hb dX11_match_44 (by decide) ?_
          exact ih21 x26 f24 (by first | omega | omega) ⟨by first | decide | omega, by first | decide | omega⟩ (by intro h9; rw [e25, hw_cls (x := y2_3) (y := x26) (by omega) (by omega)]; exact hw_zr_up (inv21_0 h9) (hw_z (huk h9)) rfl) _ _ hH vx vc vp vtk hS _ (lv_sub hl [0, 1, 2] rfl)
    exact L21 _ 0 ftk (Nat.lt_succ_self _) ⟨by first | decide | omega, by first | decide | omega⟩ (by intro _ j h1 h2; exfalso; have h3 : (0 : Int32).toNatClampNeg = 0 := rfl; omega) _ _ hH vx vc vp vtk hS _ (lv_sub hl [0, 1, 2] rfl)
  · have b29 : p1.toInt ≠ (-1) := hw_ine c1
    refine lv_aload_n hx hb dX11_match_5 rfl (lv_at hl 0 rfl) ?_
    refine hw_get hx hb fg_10_10 hK vx rfl dX11_match_6 ?_
    refine lv_iload_n hx hb dX11_match_9 rfl (lv_at hl 1 rfl) ?_
    refine hw_cR (va_runV (As := [.int p1]) (rest := []) ⟨hx, hb, hml, hown, hts⟩ (k_X1_lockAt l D G (rx 0) p1 _ rc kc_c lc_c wc_c dk_c (hw_RX_0 Rx) Rc ⟨by first | decide | omega, by first | decide | omega⟩ ⟨by first | decide | omega, by first | decide | omega⟩ ⟨by first | decide | omega, by first | decide | omega⟩) (cwV 1 hts gX11_match_X1_lockAt rfl rfl rfl (by decide +kernel) ⟨Nat.le_of_ble_eq_true rfl, Nat.le_of_ble_eq_true rfl⟩) (hw_pV (hw_rc (q := (RX1, TX1, 7)) hK vc rfl) hH hK hST hS (by decide) (fun _ h => Or.inl h) vc) rfl rfl hl.1 rfl (lv_room (Nat.le_of_ble_eq_true rfl)) dX11_match_10 ⟨Nat.le_of_ble_eq_true rfl, Nat.le_of_ble_eq_true rfl⟩) (fun v hp => ?_)
    rcases hp with rfl | ⟨b30, rfl, k31, q32⟩
    · refine lv_ifnonnullN hx hb dX11_match_13 ?_
      refine lv_bipush (v := (-2)) hx hb dX11_match_16 (by decide) ?_
      exact hw_iretM (v := (-2)) hx hb hr hlocks hQ hS rfl (⟨(-2), pa_p, ftk, rfl, hH, vx, vc, vp, vtk, (by intro h9 h8; first | (exfalso; omega) | exact hpu (htk h9)), (by intro h9 h8; first | (exfalso; omega) | rfl)⟩) dX11_match_18
    · refine lv_ifnonnull (tgt := 19) hx hb dX11_match_13 (by decide) ?_
      refine lv_iconst (v := 0) hx hb dX11_match_19 (by decide) ?_
      refine lv_istore_n (lv' := [(2, .int 0), (0, .ref h0), (1, .int p1)]) hx hb dX11_match_20 rfl hl (by decide) rfl (fun ls hl => ?_)
      have L21 : ∀ (n36 : Nat) (y2_33 : Int32) (f34 : Nat → Int32) (hm : (7 - y2_33.toInt).toNat < n36) (g35 : 0 ≤ y2_33.toInt ∧ y2_33.toInt ≤ 7) (inv21_0 : lc_c.toInt = 0 → hw_zr f34 0 y2_33.toNatClampNeg) (H : Heap) (locs : List Loc) (hH : hw_HT D G H) (vx : va_at D.1 vwCl (h0, .inr (10, hw_LX rx pn_x pc_x ks_x sc_x)) H) (vc : va_at D.1 vwCl ((rx 0), .inr (1, hw_LC rc kc_c lc_c wc_c dk_c)) H) (vp : va_at D.1 vwCl ((rx 12), .inr (5, hw_LP rp pa_p)) H) (vtk : va_at D.1 vwCl ((rp 0), .inl (D.2.1 0, 7, .inl f34)) H) (hS : va_S (hw_AW G [5, 13, 14, 15] s.heap.size) s.heap H locs) (ls : Array Slot) (hl : lv_has ls 3 [(2, .int y2_33), (0, .ref h0), (1, .int p1)]), W p l e ({ frames := 6, cells := 0, slots := 0, locals := 135 } : Room) s m args below meth c H locs 0 0 QQ (F0 m 21 ls []) := by
        intro n36
        induction n36 with
        | zero => intro y2_33 f34 hm; exact absurd hm (Nat.not_lt_zero _)
        | succ n36 ih21 =>
          intro y2_33 f34 hm g35 inv21_0 H locs hH vx vc vp vtk hS ls hl
          refine lv_iload_n hx hb dX11_match_21 rfl (lv_at hl 0 rfl) ?_
          refine lv_bipush (v := 7) hx hb dX11_match_22 (by decide) ?_
          refine lv_icmp_ge (tgt := 47) hx hb dX11_match_24 (by decide) (fun c37 => ?_) (fun c37 => ?_)
          · have b38 : 7 ≤ y2_33.toInt := hw_ile c37
            have htk : lc_c.toInt = 0 → ∀ j, j < 7 → f34 j = 0 := by intro h9 j hj; exact inv21_0 h9 j (Nat.zero_le _) (by rw [hw_cl (x := y2_33) (n := 7) (by omega)]; exact hj)
            refine lv_aload_n hx hb dX11_match_47 rfl (lv_at hl 1 rfl) ?_
            refine hw_get hx hb fg_51_10 hK vx rfl dX11_match_48 ?_
            obtain ⟨f39, v40⟩ := hH.a14 (hw_RP_1 Rp)
            refine hw_cM0 (va_runV (As := []) (rest := []) ⟨hx, hb, hml, hown, hts⟩ (k2_X6_pairUp l D G (rx 12) _ rp pa_p f34 f39 (hw_RX_12 Rx) Rp) (cwV 0 hts gX11_match_X6_pairUp rfl rfl rfl (by decide +kernel) ⟨Nat.le_of_ble_eq_true rfl, Nat.le_of_ble_eq_true rfl⟩) (hw_pV (hw_rc (q := (RX6, TX6, 7)) hK vp rfl) hH hK hST hS (by decide) (fun _ h => Or.inl h) ⟨vp, vtk, v40⟩) rfl rfl hl.1 rfl (lv_room (Nat.le_of_ble_eq_true rfl)) dX11_match_51 ⟨Nat.le_of_ble_eq_true rfl, Nat.le_of_ble_eq_true rfl⟩) hS (hw_AWsub (by decide) (fun _ _ => rfl) hS.1) (fun v H locs hp hz hk hS => ?_)
            obtain ⟨x42, f43, rfl, hH, v44, v45, v46, q47⟩ := hp
            have vx := va_at.kept vx (hk _ (hw_lt vx) (hw_AWn G0 (by decide) (hw_lt vx)))
            have vc := va_at.kept vc (hk _ (hw_lt vc) (hw_AWn (hw_RX_0 Rx) (by decide) (hw_lt vc)))
            have hpu := q47
            refine lv_iload_n hx hb dX11_match_54 rfl (lv_at hl 2 rfl) ?_
            refine lv_iconst (v := (-1)) hx hb dX11_match_55 (by decide) ?_
            refine lv_icmp_ne (tgt := 69) hx hb dX11_match_56 (by decide) (fun c48 => ?_) (fun c48 => ?_)
            · have b49 : p1.toInt ≠ (-1) := hw_ine c48
              refine lv_aload_n hx hb dX11_match_69 rfl (lv_at hl 1 rfl) ?_
              refine hw_get hx hb fg_51_10 hK vx rfl dX11_match_70 ?_
              refine lv_iload_n hx hb dX11_match_73 rfl (lv_at hl 2 rfl) ?_
              refine hw_cR (va_runV (As := [.int p1]) (rest := []) ⟨hx, hb, hml, hown, hts⟩ (k_X6_keyFor l D G (rx 12) p1 _ (hw_RX_12 Rx)) (cwV 1 hts gX11_match_X6_keyFor rfl rfl rfl (by decide +kernel) ⟨Nat.le_of_ble_eq_true rfl, Nat.le_of_ble_eq_true rfl⟩) (hw_pV (hw_rc (q := (RX6, TX6, 7)) hK v44 rfl) hH hK hST hS (by decide) (fun _ h => Or.inl h) trivial) rfl rfl hl.1 rfl (lv_room (Nat.le_of_ble_eq_true rfl)) dX11_match_74 ⟨Nat.le_of_ble_eq_true rfl, Nat.le_of_ble_eq_true rfl⟩) (fun v hp => ?_)
              obtain ⟨x50, rfl, g51⟩ := hp
              exact hw_iretM (v := x50) hx hb hr hlocks hQ hS rfl (⟨x50, x42, f34, rfl, hH, vx, vc, v44, v45, (by intro h9 h8; first | (exfalso; omega) | exact hpu (htk h9)), (by intro h9 h8; first | (exfalso; omega) | rfl)⟩) dX11_match_77
            · have b52 : p1.toInt = (-1) := hw_ieq c48
              refine lv_aload_n hx hb dX11_match_59 rfl (lv_at hl 1 rfl) ?_
              refine hw_get hx hb fg_51_10 hK vx rfl dX11_match_60 ?_
              refine hw_get hx hb fg_250_5 hK v44 rfl dX11_match_63 ?_
              refine lv_goto (tgt := 77) hx hb dX11_match_66 (by decide) ?_
              exact hw_iretM (v := x42) hx hb hr hlocks hQ hS rfl (⟨x42, x42, f34, rfl, hH, vx, vc, v44, v45, (by intro h9 h8; first | (exfalso; omega) | exact hpu (htk h9)), (by intro h9 h8; first | (exfalso; omega) | rfl)⟩) dX11_match_77
          · have b53 : y2_33.toInt < 7 := hw_inle c37
            refine lv_aload_n hx hb dX11_match_27 rfl (lv_at hl 1 rfl) ?_
            refine hw_get hx hb fg_51_10 hK vx rfl dX11_match_28 ?_
            refine hw_get hx hb fg_241_5 hK vp rfl dX11_match_31 ?_
            refine lv_iload_n hx hb dX11_match_34 rfl (lv_at hl 0 rfl) ?_
            refine lv_aload_n hx hb dX11_match_35 rfl (lv_at hl 1 rfl) ?_
            refine lv_iload_n hx hb dX11_match_36 rfl (lv_at hl 0 rfl) ?_
            refine hw_cR (va_runV (As := [.int y2_33]) (rest := [.int y2_33, .ref (rp 0)]) ⟨hx, hb, hml, hown, hts⟩ (k_X11_usableKeysFor l D G h0 y2_33 _ rx pn_x pc_x ks_x sc_x rc kc_c lc_c wc_c dk_c G0 Rx ⟨by first | decide | omega, by first | decide | omega⟩ Rc ⟨by first | decide | omega, by first | decide | omega⟩ ⟨by first | decide | omega, by first | decide | omega⟩ ⟨by first | decide | omega, by first | decide | omega⟩) (cwV 1 hts gX11_match_X11_usableKeysFor rfl rfl rfl (by decide +kernel) ⟨Nat.le_of_ble_eq_true rfl, Nat.le_of_ble_eq_true rfl⟩) (hw_pV (hw_rc (q := (RX11, TX11, 14)) hK vx rfl) hH hK hST hS (by decide) (fun _ h => Or.inl h) ⟨vx, vc⟩) rfl rfl hl.1 rfl (lv_room (Nat.le_of_ble_eq_true rfl)) dX11_match_37 ⟨Nat.le_of_ble_eq_true rfl, Nat.le_of_ble_eq_true rfl⟩) (fun v hp => ?_)
            obtain ⟨x54, rfl, q55⟩ := hp
            have huk := q55
            refine hw_iast hx hb hK hH vtk (hw_in (by omega) (by omega)) (fun _ => by rw [(hw_RP_0 Rp)]; exact ⟨_, rfl⟩) hS (hw_AWi (hw_RP_0 Rp) (by decide)) dX11_match_40 (fun H locs hH vtk oq hz hS => ?_)
            have vx := va_at.kept vx (oq _ (hw_ne G0 (hw_RP_0 Rp) (by decide)))
            have vc := va_at.kept vc (oq _ (hw_ne (hw_RX_0 Rx) (hw_RP_0 Rp) (by decide)))
            have vp := va_at.kept vp (oq _ (hw_ne (hw_RX_12 Rx) (hw_RP_0 Rp) (by decide)))
            obtain ⟨f56, e57⟩ : ∃ z, z = upd f34 y2_33.toNatClampNeg x54 := ⟨_, rfl⟩
            rw [← e57] at vtk
            obtain ⟨x58, e59⟩ : ∃ y : Int32, y = y2_33 + 1 := ⟨_, rfl⟩
            refine lv_iinc (v := x58) (lv' := [(2, .int x58), (0, .ref h0), (1, .int p1)]) hx hb dX11_match_41 hl (k := 0) rfl (by rw [e59]; rfl) (by decide) rfl (fun ls hl => ?_)
            have t60 : x58.toInt = y2_33.toInt + 1 := by rw [e59]; exact hw_add rfl rfl (by omega) (by omega)
            refine lv_goto (tgt := 21) hx hb dX11_match_44 (by decide) ?_
            exact ih21 x58 f56 (by first | omega | omega) ⟨by first | decide | omega, by first | decide | omega⟩ (by intro h9; rw [e57, hw_cls (x := y2_33) (y := x58) (by omega) (by omega)]; exact hw_zr_up (inv21_0 h9) (hw_z (huk h9)) rfl) _ _ hH vx vc vp vtk hS _ (lv_sub hl [0, 1, 2] rfl)
      exact L21 _ 0 ftk (Nat.lt_succ_self _) ⟨by first | decide | omega, by first | decide | omega⟩ (by intro _ j h1 h2; exfalso; have h3 : (0 : Int32).toNatClampNeg = 0 := rfl; omega) _ _ hH vx vc vp vtk hS _ (lv_sub hl [0, 1, 2] rfl)

set_option maxHeartbeats 4000000 in
set_option maxRecDepth 100000 in
theorem k2_X6_startWork (l : Launch) (D : hw_D) (G : Nat → Nat) (h0 : Nat) (sz : Nat) (ra : Nat → Nat) (pa_a : Int32) (flt : Nat → Int32) (G0 : G h0 = 5) (Ra : hw_RP G ra) : Met l yX6_startWork wsX6_startWork ({ frames := 0, cells := 0, slots := 0, locals := 0 } : Room) (hw_PC D G [.ref h0] sz (fun H => va_at D.1 vwCl (h0, .inr (5, hw_LP ra pa_a)) H ∧ va_at D.1 vwCl ((ra 6), .inl (D.2.1 0, 128, .inl flt)) H)) (hw_QM (fun v H => ∃ (flt2 : Nat → Int32), v = none ∧ hw_HT D G H ∧ va_at D.1 vwCl (h0, .inr (5, hw_LP ra pa_a)) H ∧ va_at D.1 vwCl ((ra 6), .inl (D.2.1 0, 128, .inl flt2)) H ∧ hw_nv flt2 128) (hw_AW G [18] sz)) 0 0 (hw_AW G [18] sz) := by
  refine hw_met (cc := cX6_startWork) (maxL := 2) (ret := none) (plainFor_of_name (by decide)) rfl (Nat.le_of_ble_eq_true rfl) ?_
  intro p e s m args below meth c QQ ls hsz hx hb hml hr hts hown hlocks hnm hH hK hST hF hQ hl
  subst hsz
  have hS : va_S (hw_AW G [18] s.heap.size) s.heap s.heap [] := va_S.rf
  obtain ⟨va, vlt⟩ := hF
  have hl : lv_has ls 2 [(0, .ref h0)] := hl
  have u_5 : ∀ w ∈ u_ws RX6 TX6 7, w.before args s = true := fun w hw => hts w ((by decide +kernel : ∀ w ∈ u_ws RX6 TX6 7, w ∈ wsX6_startWork) w hw)
  have fg_27_5 : hw_FG s args m 27 5 6 := ⟨RX6, "WardWalkers$Planner", RX6, TX6, 7, u_5, hown, rfl, by decide, (hts (.fieldLink RX6 27 "WardWalkers$Planner" "latest" "[I") (by decide +kernel)), (fun _ h9 => h9)⟩
  refine lv_aload_n hx hb dX6_startWork_0 rfl (lv_at hl 0 rfl) ?_
  refine hw_get hx hb fg_27_5 hK va rfl dX6_startWork_1 ?_
  refine lv_iconst (v := 0) hx hb dX6_startWork_4 (by decide) ?_
  refine lv_iconst (v := 0) hx hb dX6_startWork_5 (by decide) ?_
  refine hw_iast hx hb hK hH vlt (hw_in (x := 0) (by decide) (by decide)) (fun _ => by rw [(hw_RP_6 Ra)]; exact ⟨_, rfl⟩) hS (hw_AWi (hw_RP_6 Ra) (by decide)) dX6_startWork_6 (fun H locs hH vlt oq hz hS => ?_)
  have va := va_at.kept va (oq _ (hw_ne G0 (hw_RP_6 Ra) (by decide)))
  obtain ⟨f1, e2⟩ : ∃ z, z = upd flt (0 : Int32).toNatClampNeg 0 := ⟨_, rfl⟩
  rw [← e2] at vlt
  refine lv_iconst (v := 1) hx hb dX6_startWork_7 (by decide) ?_
  refine lv_istore_n (lv' := [(1, .int 1), (0, .ref h0)]) hx hb dX6_startWork_8 rfl hl (by decide) rfl (fun ls hl => ?_)
  have L9 : ∀ (n6 : Nat) (y1_3 : Int32) (f4 : Nat → Int32) (hm : (128 - y1_3.toInt).toNat < n6) (g5 : 1 ≤ y1_3.toInt ∧ y1_3.toInt ≤ 128) (inv9_0 : hw_nv f4 y1_3.toNatClampNeg) (H : Heap) (locs : List Loc) (hH : hw_HT D G H) (va : va_at D.1 vwCl (h0, .inr (5, hw_LP ra pa_a)) H) (vlt : va_at D.1 vwCl ((ra 6), .inl (D.2.1 0, 128, .inl f4)) H) (hS : va_S (hw_AW G [18] s.heap.size) s.heap H locs) (ls : Array Slot) (hl : lv_has ls 2 [(1, .int y1_3), (0, .ref h0)]), W p l e ({ frames := 0, cells := 0, slots := 0, locals := 0 } : Room) s m args below meth c H locs 0 0 QQ (F0 m 9 ls []) := by
    intro n6
    induction n6 with
    | zero => intro y1_3 f4 hm; exact absurd hm (Nat.not_lt_zero _)
    | succ n6 ih9 =>
      intro y1_3 f4 hm g5 inv9_0 H locs hH va vlt hS ls hl
      refine lv_iload_n hx hb dX6_startWork_9 rfl (lv_at hl 0 rfl) ?_
      refine lv_sipush (v := 128) hx hb dX6_startWork_10 (by decide) ?_
      refine lv_icmp_ge (tgt := 30) hx hb dX6_startWork_13 (by decide) (fun c7 => ?_) (fun c7 => ?_)
      · have b8 : 128 ≤ y1_3.toInt := hw_ile c7
        exact hw_vretM hx hb hr hlocks hQ hS (⟨f4, rfl, hH, va, vlt, (by have h8 := inv9_0; rw [hw_cl (x := y1_3) (n := 128) (by omega)] at h8; exact h8)⟩) dX6_startWork_30
      · have b9 : y1_3.toInt < 128 := hw_inle c7
        refine lv_aload_n hx hb dX6_startWork_16 rfl (lv_at hl 1 rfl) ?_
        refine hw_get hx hb fg_27_5 hK va rfl dX6_startWork_17 ?_
        refine lv_iload_n hx hb dX6_startWork_20 rfl (lv_at hl 0 rfl) ?_
        refine lv_ldc (v := 1000000) hx hb hown (hts (.constant RX6 50 (1000000)) (by decide +kernel)) dX6_startWork_21 ?_
        refine hw_iast hx hb hK hH vlt (hw_in (by omega) (by omega)) (fun _ => by rw [(hw_RP_6 Ra)]; exact ⟨_, rfl⟩) hS (hw_AWi (hw_RP_6 Ra) (by decide)) dX6_startWork_23 (fun H locs hH vlt oq hz hS => ?_)
        have va := va_at.kept va (oq _ (hw_ne G0 (hw_RP_6 Ra) (by decide)))
        obtain ⟨f10, e11⟩ : ∃ z, z = upd f4 y1_3.toNatClampNeg 1000000 := ⟨_, rfl⟩
        rw [← e11] at vlt
        obtain ⟨x12, e13⟩ : ∃ y : Int32, y = y1_3 + 1 := ⟨_, rfl⟩
        refine lv_iinc (v := x12) (lv' := [(1, .int x12), (0, .ref h0)]) hx hb dX6_startWork_24 hl (k := 0) rfl (by rw [e13]; rfl) (by decide) rfl (fun ls hl => ?_)
        have t14 : x12.toInt = y1_3.toInt + 1 := by rw [e13]; exact hw_add rfl rfl (by omega) (by omega)
        refine lv_goto (tgt := 9) hx hb dX6_startWork_27 (by decide) ?_
        exact ih9 x12 f10 (by first | omega | omega) ⟨by first | decide | omega, by first | decide | omega⟩ (by rw [e11, hw_cls (x := y1_3) (y := x12) (by omega) (by omega)]; exact hw_nv_up inv9_0 rfl) _ _ hH va vlt hS _ (lv_sub hl [0, 1] rfl)
  exact L9 _ 1 f1 (Nat.lt_succ_self _) ⟨by first | decide | omega, by first | decide | omega⟩ (by exact hw_nv_1 _) _ _ hH va vlt hS _ (lv_sub hl [0, 1] rfl)

set_option maxHeartbeats 4000000 in
set_option maxRecDepth 100000 in
theorem k2_X6_fewestFor (l : Launch) (D : hw_D) (G : Nat → Nat) (h0 : Nat) (p1 : Int32) (sz : Nat) (ra : Nat → Nat) (pa_a : Int32) (flt : Nat → Int32) (G0 : G h0 = 5) (Ra : hw_RP G ra) : Met l yX6_fewestFor wsX6_fewestFor ({ frames := 1, cells := 0, slots := 0, locals := 20 } : Room) (hw_PC D G [.ref h0, .int p1] sz (fun H => va_at D.1 vwCl (h0, .inr (5, hw_LP ra pa_a)) H ∧ va_at D.1 vwCl ((ra 6), .inl (D.2.1 0, 128, .inl flt)) H)) (hw_QR (fun v => ∃ (r : Int32), v = .int r ∧ (hw_nv flt 128 → r.toInt = -1))) 0 0 (fun _ => False) := by
  refine hw_met (cc := cX6_fewestFor) (maxL := 4) (ret := (some .int)) (plainFor_of_name (by decide)) rfl (Nat.le_of_ble_eq_true rfl) ?_
  intro p e s m args below meth c QQ ls hsz hx hb hml hr hts hown hlocks hnm hH hK hST hF hQ hl
  subst hsz
  have hS : va_S (hw_AW G [] s.heap.size) s.heap s.heap [] := va_S.rf
  obtain ⟨va, vlt⟩ := hF
  have hl : lv_has ls 4 [(0, .ref h0), (1, .int p1)] := hl
  have u_5 : ∀ w ∈ u_ws RX6 TX6 7, w.before args s = true := fun w hw => hts w ((by decide +kernel : ∀ w ∈ u_ws RX6 TX6 7, w ∈ wsX6_fewestFor) w hw)
  have fg_27_5 : hw_FG s args m 27 5 6 := ⟨RX6, "WardWalkers$Planner", RX6, TX6, 7, u_5, hown, rfl, by decide, (hts (.fieldLink RX6 27 "WardWalkers$Planner" "latest" "[I") (by decide +kernel)), (fun _ h9 => h9)⟩
  refine lv_ldc (v := 1000000) hx hb hown (hts (.constant RX6 50 (1000000)) (by decide +kernel)) dX6_fewestFor_0 ?_
  refine lv_istore_n (lv' := [(2, .int 1000000), (0, .ref h0), (1, .int p1)]) hx hb dX6_fewestFor_2 rfl hl (by decide) rfl (fun ls hl => ?_)
  refine lv_iconst (v := 1) hx hb dX6_fewestFor_3 (by decide) ?_
  refine lv_istore_n (lv' := [(3, .int 1), (2, .int 1000000), (0, .ref h0), (1, .int p1)]) hx hb dX6_fewestFor_4 rfl hl (by decide) rfl (fun ls hl => ?_)
  have L5 : ∀ (n4 : Nat) (y3_1 : Int32) (y2_2 : Int32) (hm : (128 - y3_1.toInt).toNat < n4) (g3 : 1 ≤ y3_1.toInt ∧ y3_1.toInt ≤ 128) (inv5_0 : hw_nv flt 128 → y2_2.toInt = 1000000) (ls : Array Slot) (hl : lv_has ls 4 [(3, .int y3_1), (2, .int y2_2), (0, .ref h0), (1, .int p1)]), W p l e ({ frames := 1, cells := 0, slots := 0, locals := 20 } : Room) s m args below meth c s.heap [] 0 0 QQ (F0 m 5 ls []) := by
    intro n4
    induction n4 with
    | zero => intro y3_1 y2_2 hm; exact absurd hm (Nat.not_lt_zero _)
    | succ n4 ih5 =>
      intro y3_1 y2_2 hm g3 inv5_0 ls hl
      refine lv_iload_n hx hb dX6_fewestFor_5 rfl (lv_at hl 0 rfl) ?_
      refine lv_sipush (v := 128) hx hb dX6_fewestFor_6 (by decide) ?_
      refine lv_icmp_ge (tgt := 37) hx hb dX6_fewestFor_9 (by decide) (fun c5 => ?_) (fun c5 => ?_)
      · have b6 : 128 ≤ y3_1.toInt := hw_ile c5
        refine lv_iload_n hx hb dX6_fewestFor_37 rfl (lv_at hl 1 rfl) ?_
        refine lv_ldc (v := 1000000) hx hb hown (hts (.constant RX6 50 (1000000)) (by decide +kernel)) dX6_fewestFor_38 ?_
        refine lv_icmp_ge (tgt := 47) hx hb dX6_fewestFor_40 (by decide) (fun c7 => ?_) (fun c7 => ?_)
        · have b8 : 1000000 ≤ y2_2.toInt := hw_ile c7
          refine lv_iconst (v := (-1)) hx hb dX6_fewestFor_47 (by decide) ?_
          exact hw_iretR (v := (-1)) hx hb hr hlocks hQ rfl (⟨(-1), rfl, (by intro h9; have h8 := inv5_0 h9; first | rfl | omega)⟩) dX6_fewestFor_48
        · have b9 : y2_2.toInt < 1000000 := hw_inle c7
          refine lv_iload_n hx hb dX6_fewestFor_43 rfl (lv_at hl 1 rfl) ?_
          refine lv_goto (tgt := 48) hx hb dX6_fewestFor_44 (by decide) ?_
          exact hw_iretR (v := y2_2) hx hb hr hlocks hQ rfl (⟨y2_2, rfl, (by intro h9; have h8 := inv5_0 h9; first | rfl | omega)⟩) dX6_fewestFor_48
      · have b10 : y3_1.toInt < 128 := hw_inle c5
        refine lv_iload_n hx hb dX6_fewestFor_12 rfl (lv_at hl 0 rfl) ?_
        refine hw_cR (va_runS (As := [.int y3_1]) (rest := []) ⟨hx, hb, hml, hown, hts⟩ (k_J6_bitCount_0f7a4 l D G y3_1 _) (va_cwS 1 hts gX6_fewestFor_J6_bitCount_0f7a4 rfl rfl rfl (by decide +kernel) ⟨Nat.le_of_ble_eq_true rfl, Nat.le_of_ble_eq_true rfl⟩) (hw_pS hH hK hST hS (by decide) (fun _ h => Or.inl h) trivial) rfl rfl hl.1 rfl (lv_room (Nat.le_of_ble_eq_true rfl)) dX6_fewestFor_13 ⟨Nat.le_of_ble_eq_true rfl, Nat.le_of_ble_eq_true rfl⟩) (fun v hp => ?_)
        obtain ⟨x11, rfl, g12⟩ := hp
        refine lv_iload_n hx hb dX6_fewestFor_16 rfl (lv_at hl 3 rfl) ?_
        refine lv_icmp_ne (tgt := 31) hx hb dX6_fewestFor_17 (by decide) (fun c13 => ?_) (fun c13 => ?_)
        · have b14 : x11.toInt ≠ p1.toInt := hw_ine c13
          obtain ⟨x15, e16⟩ : ∃ y : Int32, y = y3_1 + 1 := ⟨_, rfl⟩
          refine lv_iinc (v := x15) (lv' := [(3, .int x15), (2, .int y2_2), (0, .ref h0), (1, .int p1)]) hx hb dX6_fewestFor_31 hl (k := 0) rfl (by rw [e16]; rfl) (by decide) rfl (fun ls hl => ?_)
          have t17 : x15.toInt = y3_1.toInt + 1 := by rw [e16]; exact hw_add rfl rfl (by omega) (by omega)
          refine lv_goto (tgt := 5) hx hb dX6_fewestFor_34 (by decide) ?_
          exact ih5 x15 y2_2 (by first | omega | omega) ⟨by first | decide | omega, by first | decide | omega⟩ (by intro h9; have h8 := inv5_0 h9; first | (have h7 := hx7 h9; omega) | omega) _ (lv_sub hl [0, 1, 2, 3] rfl)
        · have b18 : x11.toInt = p1.toInt := hw_ieq c13
          refine lv_iload_n hx hb dX6_fewestFor_20 rfl (lv_at hl 1 rfl) ?_
          refine lv_aload_n hx hb dX6_fewestFor_21 rfl (lv_at hl 2 rfl) ?_
          refine hw_get hx hb fg_27_5 hK va rfl dX6_fewestFor_22 ?_
          refine lv_iload_n hx hb dX6_fewestFor_25 rfl (lv_at hl 0 rfl) ?_
          refine hw_iald hx hb hK vlt (hw_in (by omega) (by omega)) dX6_fewestFor_26 ?_
          refine lv_topi (fun x19 e20 => ?_)
          have hx7 : hw_nv flt 128 → x19.toInt = 1000000 := by intro h9; rw [e20, h9 _ (by rw [hw_tc]; omega) (by rw [hw_tc]; omega)]; rfl
          refine va_mmin hx hb (hml.trans hl.1.symm) hown (hts (.methodLink RX6 76 Lib.Math.min.name) (by decide +kernel)) (hts (.static Lib.Math.min.name) (by decide +kernel)) (hts (.initialized "java/lang/Math") (by decide +kernel)) (hts (.code Lib.Math.min.name Lib.Math.min.code 2 (some .int)) (by decide +kernel)) (Nat.le_of_ble_eq_true rfl) (Nat.le_of_ble_eq_true rfl) (Nat.le_of_ble_eq_true rfl) (Nat.le_of_ble_eq_true rfl) dX6_fewestFor_27 ?_
          refine lv_topi (fun x21 e22 => ?_)
          have t23 : x21.toInt = min y2_2.toInt x19.toInt := by rw [e22]; exact hw_min rfl rfl
          refine lv_istore_n (lv' := [(2, .int x21), (3, .int y3_1), (0, .ref h0), (1, .int p1)]) hx hb dX6_fewestFor_30 rfl hl (by decide) rfl (fun ls hl => ?_)
          obtain ⟨x24, e25⟩ : ∃ y : Int32, y = y3_1 + 1 := ⟨_, rfl⟩
          refine lv_iinc (v := x24) (lv' := [(3, .int x24), (2, .int x21), (0, .ref h0), (1, .int p1)]) hx hb dX6_fewestFor_31 hl (k := 1) rfl (by rw [e25]; rfl) (by decide) rfl (fun ls hl => ?_)
          have t26 : x24.toInt = y3_1.toInt + 1 := by rw [e25]; exact hw_add rfl rfl (by omega) (by omega)
          refine lv_goto (tgt := 5) hx hb dX6_fewestFor_34 (by decide) ?_
          exact ih5 x24 x21 (by first | omega | omega) ⟨by first | decide | omega, by first | decide | omega⟩ (by intro h9; have h8 := inv5_0 h9; first | (have h7 := hx7 h9; omega) | omega) _ (lv_sub hl [0, 1, 2, 3] rfl)
  exact L5 _ 1 1000000 (Nat.lt_succ_self _) ⟨by first | decide | omega, by first | decide | omega⟩ (by intro _; rfl) _ (lv_sub hl [0, 1, 2, 3] rfl)

set_option maxHeartbeats 4000000 in
set_option maxRecDepth 100000 in
theorem k2_X11_work (l : Launch) (D : hw_D) (G : Nat → Nat) (h0 : Nat) (p1 : Int32) (sz : Nat) (rx : Nat → Nat) (pn_x pc_x ks_x sc_x : Int32) (rc : Nat → Nat) (kc_c lc_c wc_c dk_c : Int32) (rp : Nat → Nat) (pa_p : Int32) (flt : Nat → Int32) (G0 : G h0 = 1) (Rx : hw_RX G rx) (gsc_x : 0 ≤ sc_x.toInt ∧ sc_x.toInt ≤ 6) (Rc : hw_RC G rc) (gkc_c : 0 ≤ kc_c.toInt ∧ kc_c.toInt ≤ 7) (glc_c : 0 ≤ lc_c.toInt ∧ lc_c.toInt ≤ 7) (gwc_c : 0 ≤ wc_c.toInt ∧ wc_c.toInt ≤ 3) (Rp : hw_RP G rp) : Met l yX11_work wsX11_work ({ frames := 6, cells := 0, slots := 0, locals := 135 } : Room) (hw_PC D G [.ref h0, .int p1] sz (fun H => va_at D.1 vwCl (h0, .inr (10, hw_LX rx pn_x pc_x ks_x sc_x)) H ∧ va_at D.1 vwCl ((rx 0), .inr (1, hw_LC rc kc_c lc_c wc_c dk_c)) H ∧ va_at D.1 vwCl ((rx 12), .inr (5, hw_LP rp pa_p)) H ∧ va_at D.1 vwCl ((rp 6), .inl (D.2.1 0, 128, .inl flt)) H)) (hw_QM (fun v H => (∃ (flt2 : Nat → Int32), v = some (.int (-3)) ∧ hw_HT D G H ∧ va_at D.1 vwCl (h0, .inr (10, hw_LX rx pn_x pc_x ks_x sc_x)) H ∧ va_at D.1 vwCl ((rx 0), .inr (1, hw_LC rc kc_c lc_c wc_c dk_c)) H ∧ va_at D.1 vwCl ((rx 12), .inr (5, hw_LP rp pa_p)) H ∧ va_at D.1 vwCl ((rp 6), .inl (D.2.1 0, 128, .inl flt2)) H ∧ (p1.toInt < 1 ∨ 7 < p1.toInt)) ∨ (∃ (r : Int32) (flt2 : Nat → Int32), v = some (.int r) ∧ hw_HT D G H ∧ va_at D.1 vwCl (h0, .inr (10, hw_LX rx pn_x pc_x ks_x sc_x)) H ∧ va_at D.1 vwCl ((rx 0), .inr (1, hw_LC rc kc_c lc_c wc_c dk_c)) H ∧ va_at D.1 vwCl ((rx 12), .inr (5, hw_LP rp pa_p)) H ∧ va_at D.1 vwCl ((rp 6), .inl (D.2.1 0, 128, .inl flt2)) H ∧ (1 ≤ p1.toInt ∧ p1.toInt ≤ 7) ∧ (wc_c.toInt = 0 → r.toInt = -1))) (hw_AW G [16, 17, 18] sz)) 0 0 (hw_AW G [16, 17, 18] sz) := by
  refine hw_met (cc := cX11_work) (maxL := 4) (ret := (some .int)) (plainFor_of_name (by decide)) rfl (Nat.le_of_ble_eq_true rfl) ?_
  intro p e s m args below meth c QQ ls hsz hx hb hml hr hts hown hlocks hnm hH hK hST hF hQ hl
  subst hsz
  have hS : va_S (hw_AW G [16, 17, 18] s.heap.size) s.heap s.heap [] := va_S.rf
  obtain ⟨vx, vc, vp, vlt⟩ := hF
  have hl : lv_has ls 4 [(0, .ref h0), (1, .int p1)] := hl
  have u_10 : ∀ w ∈ u_ws RX11 TX11 14, w.before args s = true := fun w hw => hts w ((by decide +kernel : ∀ w ∈ u_ws RX11 TX11 14, w ∈ wsX11_work) w hw)
  have fg_10_10 : hw_FG s args m 10 10 0 := ⟨RX11, "WardWalkers", RX11, TX11, 14, u_10, hown, rfl, by decide, (hts (.fieldLink RX11 10 "WardWalkers" "country" "LWardWalkers$Country;") (by decide +kernel)), (fun _ h9 => h9)⟩
  have u_1 : ∀ w ∈ u_ws RX1 TX1 7, w.before args s = true := fun w hw => hts w ((by decide +kernel : ∀ w ∈ u_ws RX1 TX1 7, w ∈ wsX11_work) w hw)
  have fg_256_1 : hw_FG s args m 256 1 3 := ⟨RX11, "WardWalkers$Country", RX1, TX1, 7, u_1, hown, rfl, by decide, (hts (.fieldLink RX11 256 "WardWalkers$Country" "lockCount" "I") (by decide +kernel)), (fun _ h9 => h9)⟩
  have fg_51_10 : hw_FG s args m 51 10 12 := ⟨RX11, "WardWalkers", RX11, TX11, 14, u_10, hown, rfl, by decide, (hts (.fieldLink RX11 51 "WardWalkers" "planner" "LWardWalkers$Planner;") (by decide +kernel)), (fun _ h9 => h9)⟩
  have fg_262_1 : hw_FG s args m 262 1 5 := ⟨RX11, "WardWalkers$Country", RX1, TX1, 7, u_1, hown, rfl, by decide, (hts (.fieldLink RX11 262 "WardWalkers$Country" "walkerCount" "I") (by decide +kernel)), (fun _ h9 => h9)⟩
  have fg_26_10 : hw_FG s args m 26 10 2 := ⟨RX11, "WardWalkers", RX11, TX11, 14, u_10, hown, rfl, by decide, (hts (.fieldLink RX11 26 "WardWalkers" "now" "LWardWalkers$Standing;") (by decide +kernel)), (fun _ h9 => h9)⟩
  refine lv_iload_n hx hb dX11_work_0 rfl (lv_at hl 1 rfl) ?_
  refine lv_iconst (v := 1) hx hb dX11_work_1 (by decide) ?_
  refine lv_icmp_lt (tgt := 11) hx hb dX11_work_2 (by decide) (fun c1 => ?_) (fun c1 => ?_)
  · have b2 : p1.toInt < 1 := hw_ilt c1
    refine lv_bipush (v := (-3)) hx hb dX11_work_11 (by decide) ?_
    exact hw_iretM (v := (-3)) hx hb hr hlocks hQ hS rfl (Or.inl ⟨flt, rfl, hH, vx, vc, vp, vlt, (by first | rfl | trivial | assumption | omega | (intros; first | rfl | assumption | omega | (exfalso; omega)))⟩) dX11_work_13
  · have b3 : 1 ≤ p1.toInt := hw_inlt c1
    refine lv_iload_n hx hb dX11_work_5 rfl (lv_at hl 1 rfl) ?_
    refine lv_bipush (v := 7) hx hb dX11_work_6 (by decide) ?_
    refine lv_icmp_le (tgt := 14) hx hb dX11_work_8 (by decide) (fun c4 => ?_) (fun c4 => ?_)
    · have b5 : p1.toInt ≤ 7 := hw_ile c4
      refine lv_iconst (v := 0) hx hb dX11_work_14 (by decide) ?_
      refine lv_istore_n (lv' := [(2, .int 0), (0, .ref h0), (1, .int p1)]) hx hb dX11_work_15 rfl hl (by decide) rfl (fun ls hl => ?_)
      refine lv_iconst (v := 0) hx hb dX11_work_16 (by decide) ?_
      refine lv_istore_n (lv' := [(3, .int 0), (2, .int 0), (0, .ref h0), (1, .int p1)]) hx hb dX11_work_17 rfl hl (by decide) rfl (fun ls hl => ?_)
      have L18 : ∀ (n9 : Nat) (y3_6 : Int32) (y2_7 : Int32) (hm : (7 - y3_6.toInt).toNat < n9) (g8 : 0 ≤ y3_6.toInt ∧ y3_6.toInt ≤ 7) (H : Heap) (locs : List Loc) (hH : hw_HT D G H) (vx : va_at D.1 vwCl (h0, .inr (10, hw_LX rx pn_x pc_x ks_x sc_x)) H) (vc : va_at D.1 vwCl ((rx 0), .inr (1, hw_LC rc kc_c lc_c wc_c dk_c)) H) (vp : va_at D.1 vwCl ((rx 12), .inr (5, hw_LP rp pa_p)) H) (vlt : va_at D.1 vwCl ((rp 6), .inl (D.2.1 0, 128, .inl flt)) H) (hS : va_S (hw_AW G [16, 17, 18] s.heap.size) s.heap H locs) (ls : Array Slot) (hl : lv_has ls 4 [(3, .int y3_6), (2, .int y2_7), (0, .ref h0), (1, .int p1)]), W p l e ({ frames := 6, cells := 0, slots := 0, locals := 135 } : Room) s m args below meth c H locs 0 0 QQ (F0 m 18 ls []) := by
        intro n9
        induction n9 with
        | zero => intro y3_6 y2_7 hm; exact absurd hm (Nat.not_lt_zero _)
        | succ n9 ih18 =>
          intro y3_6 y2_7 hm g8 H locs hH vx vc vp vlt hS ls hl
          refine lv_iload_n hx hb dX11_work_18 rfl (lv_at hl 0 rfl) ?_
          refine lv_aload_n hx hb dX11_work_19 rfl (lv_at hl 2 rfl) ?_
          refine hw_get hx hb fg_10_10 hK vx rfl dX11_work_20 ?_
          refine hw_get hx hb fg_256_1 hK vc rfl dX11_work_23 ?_
          refine lv_icmp_ge (tgt := 49) hx hb dX11_work_26 (by decide) (fun c10 => ?_) (fun c10 => ?_)
          · have b11 : lc_c.toInt ≤ y3_6.toInt := hw_ile c10
            refine lv_aload_n hx hb dX11_work_49 rfl (lv_at hl 2 rfl) ?_
            refine hw_get hx hb fg_51_10 hK vx rfl dX11_work_50 ?_
            refine hw_cM0 (va_runV (As := []) (rest := []) ⟨hx, hb, hml, hown, hts⟩ (k2_X6_startWork l D G (rx 12) _ rp pa_p flt (hw_RX_12 Rx) Rp) (cwV 0 hts gX11_work_X6_startWork rfl rfl rfl (by decide +kernel) ⟨Nat.le_of_ble_eq_true rfl, Nat.le_of_ble_eq_true rfl⟩) (hw_pV (hw_rc (q := (RX6, TX6, 7)) hK vp rfl) hH hK hST hS (by decide) (fun _ h => Or.inl h) ⟨vp, vlt⟩) rfl rfl hl.1 rfl (lv_room (Nat.le_of_ble_eq_true rfl)) dX11_work_53 ⟨Nat.le_of_ble_eq_true rfl, Nat.le_of_ble_eq_true rfl⟩) hS (hw_AWsub (by decide) (fun _ _ => rfl) hS.1) (fun v H locs hp hz hk hS => ?_)
            obtain ⟨f12, rfl, hH, v13, v14, q15⟩ := hp
            have vx := va_at.kept vx (hk _ (hw_lt vx) (hw_AWn G0 (by decide) (hw_lt vx)))
            have vc := va_at.kept vc (hk _ (hw_lt vc) (hw_AWn (hw_RX_0 Rx) (by decide) (hw_lt vc)))
            have hsw := q15
            refine lv_iconst (v := 0) hx hb dX11_work_56 (by decide) ?_
            refine lv_istore_n (lv' := [(3, .int 0), (2, .int y2_7), (0, .ref h0), (1, .int p1)]) hx hb dX11_work_57 rfl hl (by decide) rfl (fun ls hl => ?_)
            have L58 : ∀ (n19 : Nat) (y3_16 : Int32) (f17 : Nat → Int32) (hm : (3 - y3_16.toInt).toNat < n19) (g18 : 0 ≤ y3_16.toInt ∧ y3_16.toInt ≤ 3) (inv58_0 : wc_c.toInt = 0 → hw_nv f17 128) (H : Heap) (locs : List Loc) (hH : hw_HT D G H) (vx : va_at D.1 vwCl (h0, .inr (10, hw_LX rx pn_x pc_x ks_x sc_x)) H) (vc : va_at D.1 vwCl ((rx 0), .inr (1, hw_LC rc kc_c lc_c wc_c dk_c)) H) (v13 : va_at D.1 vwCl ((rx 12), .inr (5, hw_LP rp pa_p)) H) (v14 : va_at D.1 vwCl ((rp 6), .inl (D.2.1 0, 128, .inl f17)) H) (hS : va_S (hw_AW G [16, 17, 18] s.heap.size) s.heap H locs) (ls : Array Slot) (hl : lv_has ls 4 [(3, .int y3_16), (2, .int y2_7), (0, .ref h0), (1, .int p1)]), W p l e ({ frames := 6, cells := 0, slots := 0, locals := 135 } : Room) s m args below meth c H locs 0 0 QQ (F0 m 58 ls []) := by
              intro n19
              induction n19 with
              | zero => intro y3_16 f17 hm; exact absurd hm (Nat.not_lt_zero _)
              | succ n19 ih58 =>
                intro y3_16 f17 hm g18 inv58_0 H locs hH vx vc v13 v14 hS ls hl
                refine lv_iload_n hx hb dX11_work_58 rfl (lv_at hl 0 rfl) ?_
                refine lv_aload_n hx hb dX11_work_59 rfl (lv_at hl 2 rfl) ?_
                refine hw_get hx hb fg_10_10 hK vx rfl dX11_work_60 ?_
                refine hw_get hx hb fg_262_1 hK vc rfl dX11_work_63 ?_
                refine lv_icmp_ge (tgt := 111) hx hb dX11_work_66 (by decide) (fun c20 => ?_) (fun c20 => ?_)
                · have b21 : wc_c.toInt ≤ y3_16.toInt := hw_ile c20
                  refine lv_aload_n hx hb dX11_work_111 rfl (lv_at hl 2 rfl) ?_
                  refine hw_get hx hb fg_51_10 hK vx rfl dX11_work_112 ?_
                  refine lv_iload_n hx hb dX11_work_115 rfl (lv_at hl 3 rfl) ?_
                  refine hw_cR (va_runV (As := [.int p1]) (rest := []) ⟨hx, hb, hml, hown, hts⟩ (k2_X6_fewestFor l D G (rx 12) p1 _ rp pa_p f17 (hw_RX_12 Rx) Rp) (cwV 1 hts gX11_work_X6_fewestFor rfl rfl rfl (by decide +kernel) ⟨Nat.le_of_ble_eq_true rfl, Nat.le_of_ble_eq_true rfl⟩) (hw_pV (hw_rc (q := (RX6, TX6, 7)) hK v13 rfl) hH hK hST hS (by decide) (fun _ h => Or.inl h) ⟨v13, v14⟩) rfl rfl hl.1 rfl (lv_room (Nat.le_of_ble_eq_true rfl)) dX11_work_116 ⟨Nat.le_of_ble_eq_true rfl, Nat.le_of_ble_eq_true rfl⟩) (fun v hp => ?_)
                  obtain ⟨x22, rfl, q23⟩ := hp
                  have hff := q23
                  exact hw_iretM (v := x22) hx hb hr hlocks hQ hS rfl (Or.inr (⟨x22, f17, rfl, hH, vx, vc, v13, v14, (by first | rfl | trivial | assumption | omega | (intros; first | rfl | assumption | omega | (exfalso; omega))), (by intro h9; exact hff (inv58_0 h9))⟩)) dX11_work_119
                · have b24 : y3_16.toInt < wc_c.toInt := hw_inle c20
                  refine lv_aload_n hx hb dX11_work_69 rfl (lv_at hl 2 rfl) ?_
                  refine hw_get hx hb fg_51_10 hK vx rfl dX11_work_70 ?_
                  refine lv_aload_n hx hb dX11_work_73 rfl (lv_at hl 2 rfl) ?_
                  refine hw_get hx hb fg_26_10 hK vx rfl dX11_work_74 ?_
                  refine lv_iload_n hx hb dX11_work_77 rfl (lv_at hl 0 rfl) ?_
                  obtain ⟨r25, td_26, fd_27, os_28, v29, R30⟩ := hH.oS (hw_RX_2 Rx)
                  refine hw_cR (va_runV (As := [.int y3_16]) (rest := [.ref (rx 12)]) ⟨hx, hb, hml, hown, hts⟩ (k_X9_placeOf l D G (rx 2) y3_16 _ (hw_RX_2 Rx)) (cwV 1 hts gX11_work_X9_placeOf rfl rfl rfl (by decide +kernel) ⟨Nat.le_of_ble_eq_true rfl, Nat.le_of_ble_eq_true rfl⟩) (hw_pV (hw_rc (q := (RX9, TX9, 7)) hK v29 rfl) hH hK hST hS (by decide) (fun _ h => Or.inl h) trivial) rfl rfl hl.1 rfl (lv_room (Nat.le_of_ble_eq_true rfl)) dX11_work_78 ⟨Nat.le_of_ble_eq_true rfl, Nat.le_of_ble_eq_true rfl⟩) (fun v hp => ?_)
                  obtain ⟨x31, rfl⟩ := hp
                  refine lv_aload_n hx hb dX11_work_81 rfl (lv_at hl 2 rfl) ?_
                  refine hw_get hx hb fg_26_10 hK vx rfl dX11_work_82 ?_
                  refine lv_iload_n hx hb dX11_work_85 rfl (lv_at hl 0 rfl) ?_
                  refine hw_cR (va_runV (As := [.int y3_16]) (rest := [.int x31, .ref (rx 12)]) ⟨hx, hb, hml, hown, hts⟩ (k_X9_minuteOf l D G (rx 2) y3_16 _ (hw_RX_2 Rx)) (cwV 1 hts gX11_work_X9_minuteOf rfl rfl rfl (by decide +kernel) ⟨Nat.le_of_ble_eq_true rfl, Nat.le_of_ble_eq_true rfl⟩) (hw_pV (hw_rc (q := (RX9, TX9, 7)) hK v29 rfl) hH hK hST hS (by decide) (fun _ h => Or.inl h) trivial) rfl rfl hl.1 rfl (lv_room (Nat.le_of_ble_eq_true rfl)) dX11_work_86 ⟨Nat.le_of_ble_eq_true rfl, Nat.le_of_ble_eq_true rfl⟩) (fun v hp => ?_)
                  obtain ⟨x32, rfl⟩ := hp
                  refine lv_iload_n hx hb dX11_work_89 rfl (lv_at hl 1 rfl) ?_
                  refine lv_aload_n hx hb dX11_work_90 rfl (lv_at hl 2 rfl) ?_
                  refine hw_get hx hb fg_10_10 hK vx rfl dX11_work_91 ?_
                  refine hw_cM0 (va_runV (As := [.int x31, .int x32, .int y2_7, .ref (rx 0)]) (rest := []) ⟨hx, hb, hml, hown, hts⟩ (k_X6_walkFrom l D G (rx 12) x31 x32 y2_7 (rx 0) _ (hw_RX_12 Rx) (hw_RX_0 Rx)) (cwV 4 hts gX11_work_X6_walkFrom rfl rfl rfl (by decide +kernel) ⟨Nat.le_of_ble_eq_true rfl, Nat.le_of_ble_eq_true rfl⟩) (hw_pV (hw_rc (q := (RX6, TX6, 7)) hK v13 rfl) hH hK hST hS (by decide) (fun _ h => Or.inl h) trivial) rfl rfl hl.1 rfl (lv_room (Nat.le_of_ble_eq_true rfl)) dX11_work_94 ⟨Nat.le_of_ble_eq_true rfl, Nat.le_of_ble_eq_true rfl⟩) hS (hw_AWsub (by decide) (fun _ _ => rfl) hS.1) (fun v H locs hp hz hk hS => ?_)
                  obtain ⟨rfl, hH⟩ := hp
                  have vx := va_at.kept vx (hk _ (hw_lt vx) (hw_AWn G0 (by decide) (hw_lt vx)))
                  have vc := va_at.kept vc (hk _ (hw_lt vc) (hw_AWn (hw_RX_0 Rx) (by decide) (hw_lt vc)))
                  have v13 := va_at.kept v13 (hk _ (hw_lt v13) (hw_AWn (hw_RX_12 Rx) (by decide) (hw_lt v13)))
                  have v14 := va_at.kept v14 (hk _ (hw_lt v14) (hw_AWn (hw_RP_6 Rp) (by decide) (hw_lt v14)))
                  have v29 := va_at.kept v29 (hk _ (hw_lt v29) (hw_AWn (hw_RX_2 Rx) (by decide) (hw_lt v29)))
                  refine lv_aload_n hx hb dX11_work_97 rfl (lv_at hl 2 rfl) ?_
                  refine hw_get hx hb fg_51_10 hK vx rfl dX11_work_98 ?_
                  refine lv_iload_n hx hb dX11_work_101 rfl (lv_at hl 1 rfl) ?_
                  refine hw_cM0 (va_runV (As := [.int y2_7]) (rest := []) ⟨hx, hb, hml, hown, hts⟩ (k_X6_shareWith l D G (rx 12) y2_7 _ (hw_RX_12 Rx)) (cwV 1 hts gX11_work_X6_shareWith rfl rfl rfl (by decide +kernel) ⟨Nat.le_of_ble_eq_true rfl, Nat.le_of_ble_eq_true rfl⟩) (hw_pV (hw_rc (q := (RX6, TX6, 7)) hK v13 rfl) hH hK hST hS (by decide) (fun _ h => Or.inl h) trivial) rfl rfl hl.1 rfl (lv_room (Nat.le_of_ble_eq_true rfl)) dX11_work_102 ⟨Nat.le_of_ble_eq_true rfl, Nat.le_of_ble_eq_true rfl⟩) hS (hw_AWsub (by decide) (fun _ _ => rfl) hS.1) (fun v H locs hp hz hk hS => ?_)
                  obtain ⟨rfl, hH⟩ := hp
                  have vx := va_at.kept vx (hk _ (hw_lt vx) (hw_AWn G0 (by decide) (hw_lt vx)))
                  have vc := va_at.kept vc (hk _ (hw_lt vc) (hw_AWn (hw_RX_0 Rx) (by decide) (hw_lt vc)))
                  have v13 := va_at.kept v13 (hk _ (hw_lt v13) (hw_AWn (hw_RX_12 Rx) (by decide) (hw_lt v13)))
                  have v29 := va_at.kept v29 (hk _ (hw_lt v29) (hw_AWn (hw_RX_2 Rx) (by decide) (hw_lt v29)))
                  obtain ⟨x33, e34⟩ : ∃ y : Int32, y = y3_16 + 1 := ⟨_, rfl⟩
                  refine lv_iinc (v := x33) (lv' := [(3, .int x33), (2, .int y2_7), (0, .ref h0), (1, .int p1)]) hx hb dX11_work_105 hl (k := 0) rfl (by rw [e34]; rfl) (by decide) rfl (fun ls hl => ?_)
                  have t35 : x33.toInt = y3_16.toInt + 1 := by rw [e34]; exact hw_add rfl rfl (by omega) (by omega)
                  refine lv_goto (tgt := 58) hx hb dX11_work_108 (by decide) ?_
                  obtain ⟨f36, v37⟩ := hH.a18 (hw_RP_6 Rp)
                  exact ih58 x33 f36 (by first | omega | omega) ⟨by first | decide | omega, by first | decide | omega⟩ (by intro h9; exfalso; omega) _ _ hH vx vc v13 v37 hS _ (lv_sub hl [0, 1, 2, 3] rfl)
            exact L58 _ 0 f12 (Nat.lt_succ_self _) ⟨by first | decide | omega, by first | decide | omega⟩ (by intro _; exact hsw) _ _ hH vx vc v13 v14 hS _ (lv_sub hl [0, 1, 2, 3] rfl)
          · have b39 : y3_6.toInt < lc_c.toInt := hw_inle c10
            refine lv_aload_n hx hb dX11_work_29 rfl (lv_at hl 2 rfl) ?_
            refine lv_iload_n hx hb dX11_work_30 rfl (lv_at hl 0 rfl) ?_
            refine hw_cR (va_runV (As := [.int y3_6]) (rest := []) ⟨hx, hb, hml, hown, hts⟩ (k_X11_usableKeysFor l D G h0 y3_6 _ rx pn_x pc_x ks_x sc_x rc kc_c lc_c wc_c dk_c G0 Rx ⟨by first | decide | omega, by first | decide | omega⟩ Rc ⟨by first | decide | omega, by first | decide | omega⟩ ⟨by first | decide | omega, by first | decide | omega⟩ ⟨by first | decide | omega, by first | decide | omega⟩) (cwV 1 hts gX11_work_X11_usableKeysFor rfl rfl rfl (by decide +kernel) ⟨Nat.le_of_ble_eq_true rfl, Nat.le_of_ble_eq_true rfl⟩) (hw_pV (hw_rc (q := (RX11, TX11, 14)) hK vx rfl) hH hK hST hS (by decide) (fun _ h => Or.inl h) ⟨vx, vc⟩) rfl rfl hl.1 rfl (lv_room (Nat.le_of_ble_eq_true rfl)) dX11_work_31 ⟨Nat.le_of_ble_eq_true rfl, Nat.le_of_ble_eq_true rfl⟩) (fun v hp => ?_)
            obtain ⟨x40, rfl, q41⟩ := hp
            refine lv_if_eq (tgt := 43) hx hb dX11_work_34 (by decide) (fun c42 => ?_) (fun c42 => ?_)
            · have b43 : x40.toInt = 0 := hw_ieq c42
              obtain ⟨x44, e45⟩ : ∃ y : Int32, y = y3_6 + 1 := ⟨_, rfl⟩
              refine lv_iinc (v := x44) (lv' := [(3, .int x44), (2, .int y2_7), (0, .ref h0), (1, .int p1)]) hx hb dX11_work_43 hl (k := 0) rfl (by rw [e45]; rfl) (by decide) rfl (fun ls hl => ?_)
              have t46 : x44.toInt = y3_6.toInt + 1 := by rw [e45]; exact hw_add rfl rfl (by omega) (by omega)
              refine lv_goto (tgt := 18) hx hb dX11_work_46 (by decide) ?_
              exact ih18 x44 y2_7 (by first | omega | omega) ⟨by first | decide | omega, by first | decide | omega⟩ _ _ hH vx vc vp vlt hS _ (lv_sub hl [0, 1, 2, 3] rfl)
            · have b47 : x40.toInt ≠ 0 := hw_ine c42
              refine lv_iload_n hx hb dX11_work_37 rfl (lv_at hl 1 rfl) ?_
              refine lv_iconst (v := 1) hx hb dX11_work_38 (by decide) ?_
              refine lv_iload_n hx hb dX11_work_39 rfl (lv_at hl 0 rfl) ?_
              refine lv_ishl hx hb dX11_work_40 ?_
              refine lv_topi (fun x48 e49 => ?_)
              have t50 : 1 ≤ x48.toInt ∧ x48.toInt ≤ 64 := by rw [e49]; exact hw_sh1b 6 (by decide) (by first | decide | omega) (by first | decide | omega)
              refine lv_ior hx hb dX11_work_41 ?_
              refine lv_topi (fun x51 e52 => ?_)
              refine lv_istore_n (lv' := [(2, .int x51), (3, .int y3_6), (0, .ref h0), (1, .int p1)]) hx hb dX11_work_42 rfl hl (by decide) rfl (fun ls hl => ?_)
              obtain ⟨x53, e54⟩ : ∃ y : Int32, y = y3_6 + 1 := ⟨_, rfl⟩
              refine lv_iinc (v := x53) (lv' := [(3, .int x53), (2, .int x51), (0, .ref h0), (1, .int p1)]) hx hb dX11_work_43 hl (k := 1) rfl (by rw [e54]; rfl) (by decide) rfl (fun ls hl => ?_)
              have t55 : x53.toInt = y3_6.toInt + 1 := by rw [e54]; exact hw_add rfl rfl (by omega) (by omega)
              refine lv_goto (tgt := 18) hx hb dX11_work_46 (by decide) ?_
              exact ih18 x53 x51 (by first | omega | omega) ⟨by first | decide | omega, by first | decide | omega⟩ _ _ hH vx vc vp vlt hS _ (lv_sub hl [0, 1, 2, 3] rfl)
      exact L18 _ 0 0 (Nat.lt_succ_self _) ⟨by first | decide | omega, by first | decide | omega⟩ _ _ hH vx vc vp vlt hS _ (lv_sub hl [0, 1, 2, 3] rfl)
    · have b56 : 7 < p1.toInt := hw_inle c4
      refine lv_bipush (v := (-3)) hx hb dX11_work_11 (by decide) ?_
      exact hw_iretM (v := (-3)) hx hb hr hlocks hQ hS rfl (Or.inl ⟨flt, rfl, hH, vx, vc, vp, vlt, (by first | rfl | trivial | assumption | omega | (intros; first | rfl | assumption | omega | (exfalso; omega)))⟩) dX11_work_13
