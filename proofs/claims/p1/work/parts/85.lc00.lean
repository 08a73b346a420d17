theorem hw_hfg {G : Nat → Nat} {WR : List Nat} {sz : Nat} {locs : List Loc} (hG0 : G = fun _ => 0) (h0 : 0 ∉ WR) (h : ∀ q ∈ locs, hw_AW G WR sz q.base) : ∀ q ∈ locs, sz ≤ q.base := fun q h9 => (h q h9).elim (fun z => absurd (by rw [hG0] at z; exact z) h0) id
theorem hw_split13 (p : Int) : (p < 0 ∨ 12 < p) ∨ p = 0 ∨ p = 1 ∨ p = 2 ∨ p = 3 ∨ p = 4 ∨ p = 5 ∨ p = 6 ∨ p = 7 ∨ p = 8 ∨ p = 9 ∨ p = 10 ∨ p = 11 ∨ p = 12 := by omega
def hw_F0 (D : hw_D) (G : Nat → Nat) (s : State) (H : Heap) (x mo : Nat) : Prop := ∃ (G1 rx rc rt rn : Nat → Nat) (fq : Nat → Option Nat) (rm : Nat → Nat) (fro fik fla fsz : Nat → Int32), hw_HT D G1 H ∧ (∀ q, q < s.heap.size → G1 q = G q) ∧ s.heap.size ≤ x ∧ s.heap.size ≤ mo ∧ G1 x = 1 ∧ G1 mo = 9 ∧ hw_RX G1 rx ∧ va_at D.1 vwCl (x, .inr (10, hw_LX rx 0 0 0 0)) H ∧ hw_RC G1 rc ∧ va_at D.1 vwCl (rx 0, .inr (1, hw_LC rc 0 0 0 60)) H ∧ hw_RT G1 rt ∧ va_at D.1 vwCl (rx 1, .inr (9, hw_LT rt 0 0 0 0 0 0 0)) H ∧ hw_RS G1 rn ∧ va_at D.1 vwCl (rx 2, .inr (8, hw_LS rn 0 0 0)) H ∧ va_at D.1 vwCl (rx 13, .inl (D.2.1 7, 4, .inr (.inr (.inr (.inr fq))))) H ∧ hw_Racks D G1 fq (fun _ => -1) (fun _ => 0) H ∧ hw_RM G1 rm ∧ va_at D.1 vwCl (mo, .inr (11, hw_LM rm 0 0 0 0 60 0 0 0 0 0 0 0 0 0)) H ∧ va_at D.1 vwCl (rm 0, .inl (D.2.1 0, 253, .inl fro)) H ∧ (∀ j, fro j = 0) ∧ va_at D.1 vwCl (rm 2, .inl (D.2.1 2, 2, .inl fik)) H ∧ (∀ j, fik j = 0) ∧ va_at D.1 vwCl (rm 41, .inl (D.2.1 0, 4, .inl fla)) H ∧ va_at D.1 vwCl (rm 42, .inl (D.2.1 0, 4, .inl fsz)) H ∧ (∀ j, j < 4 → fsz j = -1)
set_option maxHeartbeats 40000000 in
set_option maxRecDepth 100000 in
theorem hw_case184 {p : Program} {e : Env} {s : State} {m : MethodId} {below : List Frame} {meth : Method} {c : Code} (l : Launch) {b L : Nat} {xs : Nat → Int32} {D : hw_D} {G : Nat → Nat} {H : Heap} {locs : List Loc} {x mo : Nat} {ls : Array Slot} (hL : L ≤ 6) (hL6 : 6 ≤ L) (hx : p.tables.exec = Jvm.exec) (hb : c.code = code) (hr : meth.sig.returnType = ret) (hml : c.maxLocals = 4) (hown : s.vm.findClass R_law = some m.cls) (hts0 : ∀ w ∈ lw_tbl, w.before #[Value.ref b] s = true) (hts : ∀ w ∈ wsL_law, w.before #[Value.ref b] s = true) (hX : va_X b L xs s s.heap) (hbl : b < s.heap.size) (hlocks : meth.locks = false) (hG0 : G = fun _ => 0) (hK : va_K D.1 vwCl (hw_ty D.2.1) s) (hST : hw_ST D.2.2 G s.heap.size s) (hF : hw_F0 D G s H x mo) (hS : va_S (hw_AW G [1, 2, 3, 4, 5, 6, 7, 8, 9, 10, 11, 12, 13, 14, 15, 16, 17, 18, 19, 20, 21, 22, 23, 24, 25, 26, 27, 28, 29, 30, 31, 32, 40, 42, 44, 45, 46, 48, 49, 50, 51, 53, 55, 58, 59, 67, 68, 69, 70, 71, 72, 73, 74, 75, 76, 77, 78, 79, 80, 81, 82, 83, 84, 101, 102, 103, 104, 105, 106, 107, 108, 109, 127, 128, 129, 132] s.heap.size) s.heap H locs) (hl : lv_has ls 4 [(3, .int 0), (2, .ref mo), (1, .ref x), (0, .ref b)]) : W p l e room_1 s m #[Value.ref b] below meth c H locs 200 8000 (lw_Z below #[Value.ref b] s) (F0 m 184 ls []) := by
  have hH0 : hw_HT D G s.heap := fun a h => absurd (by rw [hG0]) h
  have hbA : ¬ (hw_AW G [1, 2, 3, 4, 5, 6, 7, 8, 9, 10, 11, 12, 13, 14, 15, 16, 17, 18, 19, 20, 21, 22, 23, 24, 25, 26, 27, 28, 29, 30, 31, 32, 40, 42, 44, 45, 46, 48, 49, 50, 51, 53, 55, 58, 59, 67, 68, 69, 70, 71, 72, 73, 74, 75, 76, 77, 78, 79, 80, 81, 82, 83, 84, 101, 102, 103, 104, 105, 106, 107, 108, 109, 127, 128, 129, 132] s.heap.size) b := hw_AWn (k := 0) (by rw [hG0]) (by decide) hbl
  have hLi : (Int32.ofNat L).toInt = (L : Int) := nI_toInt (by omega)
  obtain ⟨G1, rx, rc, rt, rn, fq, rm, fro, fik, fla, fsz, hH, hGe1, wx, wm, gx, gm, Rx, vx, Rc, vc, Rt, vt, Rn, vn, vq, hRK, Rm, vm, vro, hro, vik, hik, vla, vsz, hfs⟩ := hF
  have hHs := hH0
  obtain ⟨la, hla⟩ : ∃ z : Nat → Int32, z = fun _ => -1 := ⟨_, rfl⟩
  obtain ⟨sz9, hsz9⟩ : ∃ z : Nat → Int32, z = fun _ => 0 := ⟨_, rfl⟩
  rw [← hla, ← hsz9] at hRK
  have qq := hRK.q
  have qsz : ∀ j, j < 4 → -1 ≤ (fsz j).toInt ∧ (fsz j).toInt ≤ 24 := fun j hj => by rw [hfs j hj]; decide
  have hro0 : (fro 0).toInt = 0 := by rw [hro]; rfl
  have hro1 : (fro 1).toInt = 0 := by rw [hro]; rfl
  have hro2 : (fro 2).toInt = 0 := by rw [hro]; rfl
  have hla1 : (la (xs 1).toNatClampNeg).toInt = -1 := by rw [hla]; rfl
  have hfs1 : 0 ≤ (xs 1).toInt ∧ (xs 1).toInt ≤ 3 → (fsz (xs 1).toNatClampNeg).toInt = -1 := fun h9 => by rw [hfs _ (hw_i4 h9)]; rfl
  have hla2 : (la (xs 2).toNatClampNeg).toInt = -1 := by rw [hla]; rfl
  have hfs2 : 0 ≤ (xs 2).toInt ∧ (xs 2).toInt ≤ 3 → (fsz (xs 2).toNatClampNeg).toInt = -1 := fun h9 => by rw [hfs _ (hw_i4 h9)]; rfl
  have hla3 : (la (xs 3).toNatClampNeg).toInt = -1 := by rw [hla]; rfl
  have hfs3 : 0 ≤ (xs 3).toInt ∧ (xs 3).toInt ≤ 3 → (fsz (xs 3).toNatClampNeg).toInt = -1 := fun h9 => by rw [hfs _ (hw_i4 h9)]; rfl
  have hik1 : (fik (xs 1).toNatClampNeg).toInt = 0 := by rw [hik]; rfl
  refine lv_aload_n hx hb dL_law_184 rfl (lv_at hl 2 rfl) ?_
  refine lv_aload_n hx hb dL_law_185 rfl (lv_at hl 3 rfl) ?_
  refine lv_iload_n hx hb dL_law_186 rfl (lv_at hl 0 rfl) ?_
  refine lv_iconst (v := 1) hx hb dL_law_187 (by decide) ?_
  refine lv_iadd hx hb dL_law_188 ?_
  refine W.eq (g2 := F0 m 189 ls [.int 1, .ref b, .ref x]) rfl ?_
  refine va_sld hx hb hX hbl hbA hS (hw_in (x := 1) (by decide) (by have h9 : (1 : Int32).toInt = 1 := rfl; omega)) dL_law_189 ?_
  refine W.eq (g2 := F0 m 190 ls [.int (xs 1), .ref x]) rfl ?_
  refine hw_cM0 (va_runV (As := [.int (xs 1)]) (rest := []) ⟨hx, hb, hml, hown, hts⟩ (k_X11_write l D G1 x (xs 1) _ rx 0 0 0 0 rt 0 0 0 0 0 0 0 gx Rx ⟨by first | decide | omega, by first | decide | omega⟩ Rt ⟨by first | decide | omega, by first | decide | omega⟩ ⟨by first | decide | omega, by first | decide | omega⟩ ⟨by first | decide | omega, by first | decide | omega⟩ ⟨by first | decide | omega, by first | decide | omega⟩) (cwV 1 hts gL_law_X11_write rfl rfl rfl (by decide +kernel) ⟨Nat.le_of_ble_eq_true rfl, Nat.le_of_ble_eq_true rfl⟩) (hw_pV (hw_rc (q := (RX11, TX11, 14)) hK vx rfl) hH hK hST hS (by decide) (hw_hG hGe1) ⟨vx, vt⟩) rfl rfl hl.1 rfl (lv_room (Nat.le_of_ble_eq_true rfl)) dL_law_190 ⟨Nat.le_of_ble_eq_true rfl, Nat.le_of_ble_eq_true rfl⟩) hS (hw_AWsub (by decide) hGe1 hS.1) (fun v H locs hp hz hk hS => ?_)
  have l1 : (0 : Int32).toInt = 0 := rfl
  rcases hp with ⟨x2, rfl, hH, v3, v4, g5, q6⟩ | ⟨x7, rfl, hH, v8, v9, g10, q11, q12⟩ | ⟨x13, x14, rfl, hH, v15, v16, g17, q18, q19, q20⟩
  · have hRK := hw_Racks.kept hRK (fun q9 h9 l9 => hk q9 l9 (hw_AWn h9 (by decide) l9))
    have vc := va_at.kept vc (hk _ (hw_lt vc) (hw_AWn (hw_RX_0 Rx) (by decide) (hw_lt vc)))
    have vn := va_at.kept vn (hk _ (hw_lt vn) (hw_AWn (hw_RX_2 Rx) (by decide) (hw_lt vn)))
    have vq := va_at.kept vq (hk _ (hw_lt vq) (hw_AWn (hw_RX_13 Rx) (by decide) (hw_lt vq)))
    have vm := va_at.kept vm (hk _ (hw_lt vm) (hw_AWn gm (by decide) (hw_lt vm)))
    have vro := va_at.kept vro (hk _ (hw_lt vro) (hw_AWn (hw_RM_0 Rm) (by decide) (hw_lt vro)))
    have vik := va_at.kept vik (hk _ (hw_lt vik) (hw_AWn (hw_RM_2 Rm) (by decide) (hw_lt vik)))
    have vla := va_at.kept vla (hk _ (hw_lt vla) (hw_AWn (hw_RM_41 Rm) (by decide) (hw_lt vla)))
    have vsz := va_at.kept vsz (hk _ (hw_lt vsz) (hw_AWn (hw_RM_42 Rm) (by decide) (hw_lt vsz)))
    refine lv_aload_n hx hb dL_law_193 rfl (lv_at hl 1 rfl) ?_
    refine lv_aload_n hx hb dL_law_194 rfl (lv_at hl 3 rfl) ?_
    refine lv_iload_n hx hb dL_law_195 rfl (lv_at hl 0 rfl) ?_
    refine lv_iconst (v := 1) hx hb dL_law_196 (by decide) ?_
    refine lv_iadd hx hb dL_law_197 ?_
    refine W.eq (g2 := F0 m 198 ls [.int 1, .ref b, .ref mo, .int (-3)]) rfl ?_
    refine va_sld hx hb hX hbl hbA hS (hw_in (x := 1) (by decide) (by have h9 : (1 : Int32).toInt = 1 := rfl; omega)) dL_law_198 ?_
    refine W.eq (g2 := F0 m 199 ls [.int (xs 1), .ref mo, .int (-3)]) rfl ?_
    refine hw_cM0 (va_runV (As := [.int (xs 1)]) (rest := [.int (-3)]) ⟨hx, hb, hml, hown, hts⟩ (k_X12_write l D G1 mo (xs 1) _ rm 0 0 0 0 60 0 0 0 0 0 0 0 0 0 gm Rm ⟨by first | decide | omega, by first | decide | omega⟩ ⟨by first | decide | omega, by first | decide | omega⟩ ⟨by first | decide | omega, by first | decide | omega⟩ ⟨by first | decide | omega, by first | decide | omega⟩ ⟨by first | decide | omega, by first | decide | omega⟩ ⟨by first | decide | omega, by first | decide | omega⟩ ⟨by first | decide | omega, by first | decide | omega⟩ ⟨by first | decide | omega, by first | decide | omega⟩ ⟨by first | decide | omega, by first | decide | omega⟩ ⟨by first | decide | omega, by first | decide | omega⟩ ⟨by first | decide | omega, by first | decide | omega⟩ ⟨by first | decide | omega, by first | decide | omega⟩) (cwV 1 hts gL_law_X12_write rfl rfl rfl (by decide +kernel) ⟨Nat.le_of_ble_eq_true rfl, Nat.le_of_ble_eq_true rfl⟩) (hw_pV (hw_rc (q := (RX12, TX12, 45)) hK vm rfl) hH hK hST hS (by decide) (hw_hG hGe1) vm) rfl rfl hl.1 rfl (lv_room (Nat.le_of_ble_eq_true rfl)) dL_law_199 ⟨Nat.le_of_ble_eq_true rfl, Nat.le_of_ble_eq_true rfl⟩) hS (hw_AWsub (by decide) hGe1 hS.1) (fun v H locs hp hz hk hS => ?_)
    have l21 : (60 : Int32).toInt = 60 := rfl
    rcases hp with ⟨x22, rfl, hH, v23, g24, q25⟩ | ⟨x26, rfl, hH, v27, g28, q29, q30⟩ | ⟨x31, x32, rfl, hH, v33, g34, q35, q36, q37⟩
    · have hRK := hw_Racks.kept hRK (fun q9 h9 l9 => hk q9 l9 (hw_AWn h9 (by decide) l9))
      have v3 := va_at.kept v3 (hk _ (hw_lt v3) (hw_AWn gx (by decide) (hw_lt v3)))
      have vc := va_at.kept vc (hk _ (hw_lt vc) (hw_AWn (hw_RX_0 Rx) (by decide) (hw_lt vc)))
      have v4 := va_at.kept v4 (hk _ (hw_lt v4) (hw_AWn (hw_RX_1 Rx) (by decide) (hw_lt v4)))
      have vn := va_at.kept vn (hk _ (hw_lt vn) (hw_AWn (hw_RX_2 Rx) (by decide) (hw_lt vn)))
      have vq := va_at.kept vq (hk _ (hw_lt vq) (hw_AWn (hw_RX_13 Rx) (by decide) (hw_lt vq)))
      have vro := va_at.kept vro (hk _ (hw_lt vro) (hw_AWn (hw_RM_0 Rm) (by decide) (hw_lt vro)))
      have vik := va_at.kept vik (hk _ (hw_lt vik) (hw_AWn (hw_RM_2 Rm) (by decide) (hw_lt vik)))
      have vla := va_at.kept vla (hk _ (hw_lt vla) (hw_AWn (hw_RM_41 Rm) (by decide) (hw_lt vla)))
      have vsz := va_at.kept vsz (hk _ (hw_lt vsz) (hw_AWn (hw_RM_42 Rm) (by decide) (hw_lt vsz)))
      refine lv_icmp_eq (tgt := 1188) hx hb dL_law_202 (by decide) (fun c38 => ?_) (fun c38 => ?_)
      · refine lv_iinc (v := 6) (lv' := [(3, .int 6), (2, .ref mo), (1, .ref x), (0, .ref b)]) hx hb dL_law_1188 hl (k := 0) rfl (by rfl) (by decide) rfl (fun ls hl => ?_)
        refine lv_goto (tgt := 18) hx hb dL_law_1191 (by decide) ?_
        refine lv_iload_n hx hb dL_law_18 rfl (lv_at hl 0 rfl) ?_
        refine lv_aload_n hx hb dL_law_19 rfl (lv_at hl 3 rfl) ?_
        refine va_slen hx hb hX hbl hbA hS dL_law_20 ?_
        refine lv_bipush (v := 6) hx hb dL_law_21 (by decide) ?_
        refine lv_isub hx hb dL_law_23 ?_
        refine lv_topi (fun x39 e40 => ?_)
        have t41 : x39.toInt = (Int32.ofNat L).toInt - 6 := by rw [e40]; exact hw_sub rfl rfl (by omega) (by omega)
        refine lv_icmp_gt (tgt := 1194) hx hb dL_law_24 (by decide) (fun c42 => ?_) (fun c42 => ?_)
        · have b43 : x39.toInt < 6 := hw_ilt c42
          refine lv_iconst (v := 1) hx hb dL_law_1194 (by decide) ?_
          have hfg := hw_hfg hG0 (by decide) hS.2.2
          refine va_forget hfg ?_
          refine W.widen (k := 600000) (n := 7302250) (by decide) (by decide) ?_
          exact lw_ret hx hb hr hlocks dL_law_1195
        · have b44 : 6 ≤ x39.toInt := hw_inlt c42
          exfalso; omega
      · exact absurd c38 (by decide)
    · have hRK := hw_Racks.kept hRK (fun q9 h9 l9 => hk q9 l9 (hw_AWn h9 (by decide) l9))
      have v3 := va_at.kept v3 (hk _ (hw_lt v3) (hw_AWn gx (by decide) (hw_lt v3)))
      have vc := va_at.kept vc (hk _ (hw_lt vc) (hw_AWn (hw_RX_0 Rx) (by decide) (hw_lt vc)))
      have v4 := va_at.kept v4 (hk _ (hw_lt v4) (hw_AWn (hw_RX_1 Rx) (by decide) (hw_lt v4)))
      have vn := va_at.kept vn (hk _ (hw_lt vn) (hw_AWn (hw_RX_2 Rx) (by decide) (hw_lt vn)))
      have vq := va_at.kept vq (hk _ (hw_lt vq) (hw_AWn (hw_RX_13 Rx) (by decide) (hw_lt vq)))
      have vro := va_at.kept vro (hk _ (hw_lt vro) (hw_AWn (hw_RM_0 Rm) (by decide) (hw_lt vro)))
      have vik := va_at.kept vik (hk _ (hw_lt vik) (hw_AWn (hw_RM_2 Rm) (by decide) (hw_lt vik)))
      have vla := va_at.kept vla (hk _ (hw_lt vla) (hw_AWn (hw_RM_41 Rm) (by decide) (hw_lt vla)))
      have vsz := va_at.kept vsz (hk _ (hw_lt vsz) (hw_AWn (hw_RM_42 Rm) (by decide) (hw_lt vsz)))
      refine lv_icmp_eq (tgt := 1188) hx hb dL_law_202 (by decide) (fun c45 => ?_) (fun c45 => ?_)
      · exact absurd c45 (by decide)
      · exfalso
        first | omega | contradiction | (subst_vars; omega)
    · have hRK := hw_Racks.kept hRK (fun q9 h9 l9 => hk q9 l9 (hw_AWn h9 (by decide) l9))
      have v3 := va_at.kept v3 (hk _ (hw_lt v3) (hw_AWn gx (by decide) (hw_lt v3)))
      have vc := va_at.kept vc (hk _ (hw_lt vc) (hw_AWn (hw_RX_0 Rx) (by decide) (hw_lt vc)))
      have v4 := va_at.kept v4 (hk _ (hw_lt v4) (hw_AWn (hw_RX_1 Rx) (by decide) (hw_lt v4)))
      have vn := va_at.kept vn (hk _ (hw_lt vn) (hw_AWn (hw_RX_2 Rx) (by decide) (hw_lt vn)))
      have vq := va_at.kept vq (hk _ (hw_lt vq) (hw_AWn (hw_RX_13 Rx) (by decide) (hw_lt vq)))
      have vro := va_at.kept vro (hk _ (hw_lt vro) (hw_AWn (hw_RM_0 Rm) (by decide) (hw_lt vro)))
      have vik := va_at.kept vik (hk _ (hw_lt vik) (hw_AWn (hw_RM_2 Rm) (by decide) (hw_lt vik)))
      have vla := va_at.kept vla (hk _ (hw_lt vla) (hw_AWn (hw_RM_41 Rm) (by decide) (hw_lt vla)))
      have vsz := va_at.kept vsz (hk _ (hw_lt vsz) (hw_AWn (hw_RM_42 Rm) (by decide) (hw_lt vsz)))
      refine lv_icmp_eq (tgt := 1188) hx hb dL_law_202 (by decide) (fun c46 => ?_) (fun c46 => ?_)
      · have b47 : (-3) = x31.toInt := hw_ieq c46
        refine lv_iinc (v := 6) (lv' := [(3, .int 6), (2, .ref mo), (1, .ref x), (0, .ref b)]) hx hb dL_law_1188 hl (k := 0) rfl (by rfl) (by decide) rfl (fun ls hl => ?_)
        refine lv_goto (tgt := 18) hx hb dL_law_1191 (by decide) ?_
        refine lv_iload_n hx hb dL_law_18 rfl (lv_at hl 0 rfl) ?_
        refine lv_aload_n hx hb dL_law_19 rfl (lv_at hl 3 rfl) ?_
        refine va_slen hx hb hX hbl hbA hS dL_law_20 ?_
        refine lv_bipush (v := 6) hx hb dL_law_21 (by decide) ?_
        refine lv_isub hx hb dL_law_23 ?_
        refine lv_topi (fun x48 e49 => ?_)
        have t50 : x48.toInt = (Int32.ofNat L).toInt - 6 := by rw [e49]; exact hw_sub rfl rfl (by omega) (by omega)
        refine lv_icmp_gt (tgt := 1194) hx hb dL_law_24 (by decide) (fun c51 => ?_) (fun c51 => ?_)
        · have b52 : x48.toInt < 6 := hw_ilt c51
          refine lv_iconst (v := 1) hx hb dL_law_1194 (by decide) ?_
          have hfg := hw_hfg hG0 (by decide) hS.2.2
          refine va_forget hfg ?_
          refine W.widen (k := 600000) (n := 7302250) (by decide) (by decide) ?_
          exact lw_ret hx hb hr hlocks dL_law_1195
        · have b53 : 6 ≤ x48.toInt := hw_inlt c51
          exfalso; omega
      · have b54 : (-3) ≠ x31.toInt := hw_ine c46
        exfalso
        first | omega | contradiction | (subst_vars; omega)
  · have hRK := hw_Racks.kept hRK (fun q9 h9 l9 => hk q9 l9 (hw_AWn h9 (by decide) l9))
    have vc := va_at.kept vc (hk _ (hw_lt vc) (hw_AWn (hw_RX_0 Rx) (by decide) (hw_lt vc)))
    have vn := va_at.kept vn (hk _ (hw_lt vn) (hw_AWn (hw_RX_2 Rx) (by decide) (hw_lt vn)))
    have vq := va_at.kept vq (hk _ (hw_lt vq) (hw_AWn (hw_RX_13 Rx) (by decide) (hw_lt vq)))
    have vm := va_at.kept vm (hk _ (hw_lt vm) (hw_AWn gm (by decide) (hw_lt vm)))
    have vro := va_at.kept vro (hk _ (hw_lt vro) (hw_AWn (hw_RM_0 Rm) (by decide) (hw_lt vro)))
    have vik := va_at.kept vik (hk _ (hw_lt vik) (hw_AWn (hw_RM_2 Rm) (by decide) (hw_lt vik)))
    have vla := va_at.kept vla (hk _ (hw_lt vla) (hw_AWn (hw_RM_41 Rm) (by decide) (hw_lt vla)))
    have vsz := va_at.kept vsz (hk _ (hw_lt vsz) (hw_AWn (hw_RM_42 Rm) (by decide) (hw_lt vsz)))
    refine lv_aload_n hx hb dL_law_193 rfl (lv_at hl 1 rfl) ?_
    refine lv_aload_n hx hb dL_law_194 rfl (lv_at hl 3 rfl) ?_
    refine lv_iload_n hx hb dL_law_195 rfl (lv_at hl 0 rfl) ?_
    refine lv_iconst (v := 1) hx hb dL_law_196 (by decide) ?_
    refine lv_iadd hx hb dL_law_197 ?_
    refine W.eq (g2 := F0 m 198 ls [.int 1, .ref b, .ref mo, .int (-5)]) rfl ?_
    refine va_sld hx hb hX hbl hbA hS (hw_in (x := 1) (by decide) (by have h9 : (1 : Int32).toInt = 1 := rfl; omega)) dL_law_198 ?_
    refine W.eq (g2 := F0 m 199 ls [.int (xs 1), .ref mo, .int (-5)]) rfl ?_
    refine hw_cM0 (va_runV (As := [.int (xs 1)]) (rest := [.int (-5)]) ⟨hx, hb, hml, hown, hts⟩ (k_X12_write l D G1 mo (xs 1) _ rm 0 0 0 0 60 0 0 0 0 0 0 0 0 0 gm Rm ⟨by first | decide | omega, by first | decide | omega⟩ ⟨by first | decide | omega, by first | decide | omega⟩ ⟨by first | decide | omega, by first | decide | omega⟩ ⟨by first | decide | omega, by first | decide | omega⟩ ⟨by first | decide | omega, by first | decide | omega⟩ ⟨by first | decide | omega, by first | decide | omega⟩ ⟨by first | decide | omega, by first | decide | omega⟩ ⟨by first | decide | omega, by first | decide | omega⟩ ⟨by first | decide | omega, by first | decide | omega⟩ ⟨by first | decide | omega, by first | decide | omega⟩ ⟨by first | decide | omega, by first | decide | omega⟩ ⟨by first | decide | omega, by first | decide | omega⟩) (cwV 1 hts gL_law_X12_write rfl rfl rfl (by decide +kernel) ⟨Nat.le_of_ble_eq_true rfl, Nat.le_of_ble_eq_true rfl⟩) (hw_pV (hw_rc (q := (RX12, TX12, 45)) hK vm rfl) hH hK hST hS (by decide) (hw_hG hGe1) vm) rfl rfl hl.1 rfl (lv_room (Nat.le_of_ble_eq_true rfl)) dL_law_199 ⟨Nat.le_of_ble_eq_true rfl, Nat.le_of_ble_eq_true rfl⟩) hS (hw_AWsub (by decide) hGe1 hS.1) (fun v H locs hp hz hk hS => ?_)
    have l55 : (60 : Int32).toInt = 60 := rfl
    rcases hp with ⟨x56, rfl, hH, v57, g58, q59⟩ | ⟨x60, rfl, hH, v61, g62, q63, q64⟩ | ⟨x65, x66, rfl, hH, v67, g68, q69, q70, q71⟩
    · have hRK := hw_Racks.kept hRK (fun q9 h9 l9 => hk q9 l9 (hw_AWn h9 (by decide) l9))
      have v8 := va_at.kept v8 (hk _ (hw_lt v8) (hw_AWn gx (by decide) (hw_lt v8)))
      have vc := va_at.kept vc (hk _ (hw_lt vc) (hw_AWn (hw_RX_0 Rx) (by decide) (hw_lt vc)))
      have v9 := va_at.kept v9 (hk _ (hw_lt v9) (hw_AWn (hw_RX_1 Rx) (by decide) (hw_lt v9)))
      have vn := va_at.kept vn (hk _ (hw_lt vn) (hw_AWn (hw_RX_2 Rx) (by decide) (hw_lt vn)))
      have vq := va_at.kept vq (hk _ (hw_lt vq) (hw_AWn (hw_RX_13 Rx) (by decide) (hw_lt vq)))
      have vro := va_at.kept vro (hk _ (hw_lt vro) (hw_AWn (hw_RM_0 Rm) (by decide) (hw_lt vro)))
      have vik := va_at.kept vik (hk _ (hw_lt vik) (hw_AWn (hw_RM_2 Rm) (by decide) (hw_lt vik)))
      have vla := va_at.kept vla (hk _ (hw_lt vla) (hw_AWn (hw_RM_41 Rm) (by decide) (hw_lt vla)))
      have vsz := va_at.kept vsz (hk _ (hw_lt vsz) (hw_AWn (hw_RM_42 Rm) (by decide) (hw_lt vsz)))
      refine lv_icmp_eq (tgt := 1188) hx hb dL_law_202 (by decide) (fun c72 => ?_) (fun c72 => ?_)
      · exact absurd c72 (by decide)
      · exfalso
        first | omega | contradiction | (subst_vars; omega)
    · have hRK := hw_Racks.kept hRK (fun q9 h9 l9 => hk q9 l9 (hw_AWn h9 (by decide) l9))
      have v8 := va_at.kept v8 (hk _ (hw_lt v8) (hw_AWn gx (by decide) (hw_lt v8)))
      have vc := va_at.kept vc (hk _ (hw_lt vc) (hw_AWn (hw_RX_0 Rx) (by decide) (hw_lt vc)))
      have v9 := va_at.kept v9 (hk _ (hw_lt v9) (hw_AWn (hw_RX_1 Rx) (by decide) (hw_lt v9)))
      have vn := va_at.kept vn (hk _ (hw_lt vn) (hw_AWn (hw_RX_2 Rx) (by decide) (hw_lt vn)))
      have vq := va_at.kept vq (hk _ (hw_lt vq) (hw_AWn (hw_RX_13 Rx) (by decide) (hw_lt vq)))
      have vro := va_at.kept vro (hk _ (hw_lt vro) (hw_AWn (hw_RM_0 Rm) (by decide) (hw_lt vro)))
      have vik := va_at.kept vik (hk _ (hw_lt vik) (hw_AWn (hw_RM_2 Rm) (by decide) (hw_lt vik)))
      have vla := va_at.kept vla (hk _ (hw_lt vla) (hw_AWn (hw_RM_41 Rm) (by decide) (hw_lt vla)))
      have vsz := va_at.kept vsz (hk _ (hw_lt vsz) (hw_AWn (hw_RM_42 Rm) (by decide) (hw_lt vsz)))
      refine lv_icmp_eq (tgt := 1188) hx hb dL_law_202 (by decide) (fun c73 => ?_) (fun c73 => ?_)
      · refine lv_iinc (v := 6) (lv' := [(3, .int 6), (2, .ref mo), (1, .ref x), (0, .ref b)]) hx hb dL_law_1188 hl (k := 0) rfl (by rfl) (by decide) rfl (fun ls hl => ?_)
        refine lv_goto (tgt := 18) hx hb dL_law_1191 (by decide) ?_
        refine lv_iload_n hx hb dL_law_18 rfl (lv_at hl 0 rfl) ?_
        refine lv_aload_n hx hb dL_law_19 rfl (lv_at hl 3 rfl) ?_
        refine va_slen hx hb hX hbl hbA hS dL_law_20 ?_
        refine lv_bipush (v := 6) hx hb dL_law_21 (by decide) ?_
        refine lv_isub hx hb dL_law_23 ?_
        refine lv_topi (fun x74 e75 => ?_)
        have t76 : x74.toInt = (Int32.ofNat L).toInt - 6 := by rw [e75]; exact hw_sub rfl rfl (by omega) (by omega)
        refine lv_icmp_gt (tgt := 1194) hx hb dL_law_24 (by decide) (fun c77 => ?_) (fun c77 => ?_)
        · have b78 : x74.toInt < 6 := hw_ilt c77
          refine lv_iconst (v := 1) hx hb dL_law_1194 (by decide) ?_
          have hfg := hw_hfg hG0 (by decide) hS.2.2
          refine va_forget hfg ?_
          refine W.widen (k := 600000) (n := 7302250) (by decide) (by decide) ?_
          exact lw_ret hx hb hr hlocks dL_law_1195
        · have b79 : 6 ≤ x74.toInt := hw_inlt c77
          exfalso; omega
      · exact absurd c73 (by decide)
    · have hRK := hw_Racks.kept hRK (fun q9 h9 l9 => hk q9 l9 (hw_AWn h9 (by decide) l9))
      have v8 := va_at.kept v8 (hk _ (hw_lt v8) (hw_AWn gx (by decide) (hw_lt v8)))
      have vc := va_at.kept vc (hk _ (hw_lt vc) (hw_AWn (hw_RX_0 Rx) (by decide) (hw_lt vc)))
      have v9 := va_at.kept v9 (hk _ (hw_lt v9) (hw_AWn (hw_RX_1 Rx) (by decide) (hw_lt v9)))
      have vn := va_at.kept vn (hk _ (hw_lt vn) (hw_AWn (hw_RX_2 Rx) (by decide) (hw_lt vn)))
      have vq := va_at.kept vq (hk _ (hw_lt vq) (hw_AWn (hw_RX_13 Rx) (by decide) (hw_lt vq)))
      have vro := va_at.kept vro (hk _ (hw_lt vro) (hw_AWn (hw_RM_0 Rm) (by decide) (hw_lt vro)))
      have vik := va_at.kept vik (hk _ (hw_lt vik) (hw_AWn (hw_RM_2 Rm) (by decide) (hw_lt vik)))
      have vla := va_at.kept vla (hk _ (hw_lt vla) (hw_AWn (hw_RM_41 Rm) (by decide) (hw_lt vla)))
      have vsz := va_at.kept vsz (hk _ (hw_lt vsz) (hw_AWn (hw_RM_42 Rm) (by decide) (hw_lt vsz)))
      refine lv_icmp_eq (tgt := 1188) hx hb dL_law_202 (by decide) (fun c80 => ?_) (fun c80 => ?_)
      · have b81 : (-5) = x65.toInt := hw_ieq c80
        refine lv_iinc (v := 6) (lv' := [(3, .int 6), (2, .ref mo), (1, .ref x), (0, .ref b)]) hx hb dL_law_1188 hl (k := 0) rfl (by rfl) (by decide) rfl (fun ls hl => ?_)
        refine lv_goto (tgt := 18) hx hb dL_law_1191 (by decide) ?_
        refine lv_iload_n hx hb dL_law_18 rfl (lv_at hl 0 rfl) ?_
        refine lv_aload_n hx hb dL_law_19 rfl (lv_at hl 3 rfl) ?_
        refine va_slen hx hb hX hbl hbA hS dL_law_20 ?_
        refine lv_bipush (v := 6) hx hb dL_law_21 (by decide) ?_
        refine lv_isub hx hb dL_law_23 ?_
        refine lv_topi (fun x82 e83 => ?_)
        have t84 : x82.toInt = (Int32.ofNat L).toInt - 6 := by rw [e83]; exact hw_sub rfl rfl (by omega) (by omega)
        refine lv_icmp_gt (tgt := 1194) hx hb dL_law_24 (by decide) (fun c85 => ?_) (fun c85 => ?_)
        · have b86 : x82.toInt < 6 := hw_ilt c85
          refine lv_iconst (v := 1) hx hb dL_law_1194 (by decide) ?_
          have hfg := hw_hfg hG0 (by decide) hS.2.2
          refine va_forget hfg ?_
          refine W.widen (k := 600000) (n := 7302250) (by decide) (by decide) ?_
          exact lw_ret hx hb hr hlocks dL_law_1195
        · have b87 : 6 ≤ x82.toInt := hw_inlt c85
          exfalso; omega
      · have b88 : (-5) ≠ x65.toInt := hw_ine c80
        exfalso
        first | omega | contradiction | (subst_vars; omega)
  · have hRK := hw_Racks.kept hRK (fun q9 h9 l9 => hk q9 l9 (hw_AWn h9 (by decide) l9))
    have vc := va_at.kept vc (hk _ (hw_lt vc) (hw_AWn (hw_RX_0 Rx) (by decide) (hw_lt vc)))
    have vn := va_at.kept vn (hk _ (hw_lt vn) (hw_AWn (hw_RX_2 Rx) (by decide) (hw_lt vn)))
    have vq := va_at.kept vq (hk _ (hw_lt vq) (hw_AWn (hw_RX_13 Rx) (by decide) (hw_lt vq)))
    have vm := va_at.kept vm (hk _ (hw_lt vm) (hw_AWn gm (by decide) (hw_lt vm)))
    have vro := va_at.kept vro (hk _ (hw_lt vro) (hw_AWn (hw_RM_0 Rm) (by decide) (hw_lt vro)))
    have vik := va_at.kept vik (hk _ (hw_lt vik) (hw_AWn (hw_RM_2 Rm) (by decide) (hw_lt vik)))
    have vla := va_at.kept vla (hk _ (hw_lt vla) (hw_AWn (hw_RM_41 Rm) (by decide) (hw_lt vla)))
    have vsz := va_at.kept vsz (hk _ (hw_lt vsz) (hw_AWn (hw_RM_42 Rm) (by decide) (hw_lt vsz)))
    refine lv_aload_n hx hb dL_law_193 rfl (lv_at hl 1 rfl) ?_
    refine lv_aload_n hx hb dL_law_194 rfl (lv_at hl 3 rfl) ?_
    refine lv_iload_n hx hb dL_law_195 rfl (lv_at hl 0 rfl) ?_
    refine lv_iconst (v := 1) hx hb dL_law_196 (by decide) ?_
    refine lv_iadd hx hb dL_law_197 ?_
    refine W.eq (g2 := F0 m 198 ls [.int 1, .ref b, .ref mo, .int x13]) rfl ?_
    refine va_sld hx hb hX hbl hbA hS (hw_in (x := 1) (by decide) (by have h9 : (1 : Int32).toInt = 1 := rfl; omega)) dL_law_198 ?_
    refine W.eq (g2 := F0 m 199 ls [.int (xs 1), .ref mo, .int x13]) rfl ?_
    refine hw_cM0 (va_runV (As := [.int (xs 1)]) (rest := [.int x13]) ⟨hx, hb, hml, hown, hts⟩ (k_X12_write l D G1 mo (xs 1) _ rm 0 0 0 0 60 0 0 0 0 0 0 0 0 0 gm Rm ⟨by first | decide | omega, by first | decide | omega⟩ ⟨by first | decide | omega, by first | decide | omega⟩ ⟨by first | decide | omega, by first | decide | omega⟩ ⟨by first | decide | omega, by first | decide | omega⟩ ⟨by first | decide | omega, by first | decide | omega⟩ ⟨by first | decide | omega, by first | decide | omega⟩ ⟨by first | decide | omega, by first | decide | omega⟩ ⟨by first | decide | omega, by first | decide | omega⟩ ⟨by first | decide | omega, by first | decide | omega⟩ ⟨by first | decide | omega, by first | decide | omega⟩ ⟨by first | decide | omega, by first | decide | omega⟩ ⟨by first | decide | omega, by first | decide | omega⟩) (cwV 1 hts gL_law_X12_write rfl rfl rfl (by decide +kernel) ⟨Nat.le_of_ble_eq_true rfl, Nat.le_of_ble_eq_true rfl⟩) (hw_pV (hw_rc (q := (RX12, TX12, 45)) hK vm rfl) hH hK hST hS (by decide) (hw_hG hGe1) vm) rfl rfl hl.1 rfl (lv_room (Nat.le_of_ble_eq_true rfl)) dL_law_199 ⟨Nat.le_of_ble_eq_true rfl, Nat.le_of_ble_eq_true rfl⟩) hS (hw_AWsub (by decide) hGe1 hS.1) (fun v H locs hp hz hk hS => ?_)
    have l89 : (60 : Int32).toInt = 60 := rfl
    rcases hp with ⟨x90, rfl, hH, v91, g92, q93⟩ | ⟨x94, rfl, hH, v95, g96, q97, q98⟩ | ⟨x99, x100, rfl, hH, v101, g102, q103, q104, q105⟩
    · have hRK := hw_Racks.kept hRK (fun q9 h9 l9 => hk q9 l9 (hw_AWn h9 (by decide) l9))
      have v15 := va_at.kept v15 (hk _ (hw_lt v15) (hw_AWn gx (by decide) (hw_lt v15)))
      have vc := va_at.kept vc (hk _ (hw_lt vc) (hw_AWn (hw_RX_0 Rx) (by decide) (hw_lt vc)))
      have v16 := va_at.kept v16 (hk _ (hw_lt v16) (hw_AWn (hw_RX_1 Rx) (by decide) (hw_lt v16)))
      have vn := va_at.kept vn (hk _ (hw_lt vn) (hw_AWn (hw_RX_2 Rx) (by decide) (hw_lt vn)))
      have vq := va_at.kept vq (hk _ (hw_lt vq) (hw_AWn (hw_RX_13 Rx) (by decide) (hw_lt vq)))
      have vro := va_at.kept vro (hk _ (hw_lt vro) (hw_AWn (hw_RM_0 Rm) (by decide) (hw_lt vro)))
      have vik := va_at.kept vik (hk _ (hw_lt vik) (hw_AWn (hw_RM_2 Rm) (by decide) (hw_lt vik)))
      have vla := va_at.kept vla (hk _ (hw_lt vla) (hw_AWn (hw_RM_41 Rm) (by decide) (hw_lt vla)))
      have vsz := va_at.kept vsz (hk _ (hw_lt vsz) (hw_AWn (hw_RM_42 Rm) (by decide) (hw_lt vsz)))
      refine lv_icmp_eq (tgt := 1188) hx hb dL_law_202 (by decide) (fun c106 => ?_) (fun c106 => ?_)
      · have b107 : x13.toInt = (-3) := hw_ieq c106
        refine lv_iinc (v := 6) (lv' := [(3, .int 6), (2, .ref mo), (1, .ref x), (0, .ref b)]) hx hb dL_law_1188 hl (k := 0) rfl (by rfl) (by decide) rfl (fun ls hl => ?_)
        refine lv_goto (tgt := 18) hx hb dL_law_1191 (by decide) ?_
        refine lv_iload_n hx hb dL_law_18 rfl (lv_at hl 0 rfl) ?_
        refine lv_aload_n hx hb dL_law_19 rfl (lv_at hl 3 rfl) ?_
        refine va_slen hx hb hX hbl hbA hS dL_law_20 ?_
        refine lv_bipush (v := 6) hx hb dL_law_21 (by decide) ?_
        refine lv_isub hx hb dL_law_23 ?_
        refine lv_topi (fun x108 e109 => ?_)
        have t110 : x108.toInt = (Int32.ofNat L).toInt - 6 := by rw [e109]; exact hw_sub rfl rfl (by omega) (by omega)
        refine lv_icmp_gt (tgt := 1194) hx hb dL_law_24 (by decide) (fun c111 => ?_) (fun c111 => ?_)
        · have b112 : x108.toInt < 6 := hw_ilt c111
          refine lv_iconst (v := 1) hx hb dL_law_1194 (by decide) ?_
          have hfg := hw_hfg hG0 (by decide) hS.2.2
          refine va_forget hfg ?_
          refine W.widen (k := 600000) (n := 7302250) (by decide) (by decide) ?_
          exact lw_ret hx hb hr hlocks dL_law_1195
        · have b113 : 6 ≤ x108.toInt := hw_inlt c111
          exfalso; omega
      · have b114 : x13.toInt ≠ (-3) := hw_ine c106
        exfalso
        first | omega | contradiction | (subst_vars; omega)
    · have hRK := hw_Racks.kept hRK (fun q9 h9 l9 => hk q9 l9 (hw_AWn h9 (by decide) l9))
      have v15 := va_at.kept v15 (hk _ (hw_lt v15) (hw_AWn gx (by decide) (hw_lt v15)))
      have vc := va_at.kept vc (hk _ (hw_lt vc) (hw_AWn (hw_RX_0 Rx) (by decide) (hw_lt vc)))
      have v16 := va_at.kept v16 (hk _ (hw_lt v16) (hw_AWn (hw_RX_1 Rx) (by decide) (hw_lt v16)))
      have vn := va_at.kept vn (hk _ (hw_lt vn) (hw_AWn (hw_RX_2 Rx) (by decide) (hw_lt vn)))
      have vq := va_at.kept vq (hk _ (hw_lt vq) (hw_AWn (hw_RX_13 Rx) (by decide) (hw_lt vq)))
      have vro := va_at.kept vro (hk _ (hw_lt vro) (hw_AWn (hw_RM_0 Rm) (by decide) (hw_lt vro)))
      have vik := va_at.kept vik (hk _ (hw_lt vik) (hw_AWn (hw_RM_2 Rm) (by decide) (hw_lt vik)))
      have vla := va_at.kept vla (hk _ (hw_lt vla) (hw_AWn (hw_RM_41 Rm) (by decide) (hw_lt vla)))
      have vsz := va_at.kept vsz (hk _ (hw_lt vsz) (hw_AWn (hw_RM_42 Rm) (by decide) (hw_lt vsz)))
      refine lv_icmp_eq (tgt := 1188) hx hb dL_law_202 (by decide) (fun c115 => ?_) (fun c115 => ?_)
      · have b116 : x13.toInt = (-5) := hw_ieq c115
        refine lv_iinc (v := 6) (lv' := [(3, .int 6), (2, .ref mo), (1, .ref x), (0, .ref b)]) hx hb dL_law_1188 hl (k := 0) rfl (by rfl) (by decide) rfl (fun ls hl => ?_)
        refine lv_goto (tgt := 18) hx hb dL_law_1191 (by decide) ?_
        refine lv_iload_n hx hb dL_law_18 rfl (lv_at hl 0 rfl) ?_
        refine lv_aload_n hx hb dL_law_19 rfl (lv_at hl 3 rfl) ?_
        refine va_slen hx hb hX hbl hbA hS dL_law_20 ?_
        refine lv_bipush (v := 6) hx hb dL_law_21 (by decide) ?_
        refine lv_isub hx hb dL_law_23 ?_
        refine lv_topi (fun x117 e118 => ?_)
        have t119 : x117.toInt = (Int32.ofNat L).toInt - 6 := by rw [e118]; exact hw_sub rfl rfl (by omega) (by omega)
        refine lv_icmp_gt (tgt := 1194) hx hb dL_law_24 (by decide) (fun c120 => ?_) (fun c120 => ?_)
        · have b121 : x117.toInt < 6 := hw_ilt c120
          refine lv_iconst (v := 1) hx hb dL_law_1194 (by decide) ?_
          have hfg := hw_hfg hG0 (by decide) hS.2.2
          refine va_forget hfg ?_
          refine W.widen (k := 600000) (n := 7302250) (by decide) (by decide) ?_
          exact lw_ret hx hb hr hlocks dL_law_1195
        · have b122 : 6 ≤ x117.toInt := hw_inlt c120
          exfalso; omega
      · have b123 : x13.toInt ≠ (-5) := hw_ine c115
        exfalso
        first | omega | contradiction | (subst_vars; omega)
    · have hRK := hw_Racks.kept hRK (fun q9 h9 l9 => hk q9 l9 (hw_AWn h9 (by decide) l9))
      have v15 := va_at.kept v15 (hk _ (hw_lt v15) (hw_AWn gx (by decide) (hw_lt v15)))
      have vc := va_at.kept vc (hk _ (hw_lt vc) (hw_AWn (hw_RX_0 Rx) (by decide) (hw_lt vc)))
      have v16 := va_at.kept v16 (hk _ (hw_lt v16) (hw_AWn (hw_RX_1 Rx) (by decide) (hw_lt v16)))
      have vn := va_at.kept vn (hk _ (hw_lt vn) (hw_AWn (hw_RX_2 Rx) (by decide) (hw_lt vn)))
      have vq := va_at.kept vq (hk _ (hw_lt vq) (hw_AWn (hw_RX_13 Rx) (by decide) (hw_lt vq)))
      have vro := va_at.kept vro (hk _ (hw_lt vro) (hw_AWn (hw_RM_0 Rm) (by decide) (hw_lt vro)))
      have vik := va_at.kept vik (hk _ (hw_lt vik) (hw_AWn (hw_RM_2 Rm) (by decide) (hw_lt vik)))
      have vla := va_at.kept vla (hk _ (hw_lt vla) (hw_AWn (hw_RM_41 Rm) (by decide) (hw_lt vla)))
      have vsz := va_at.kept vsz (hk _ (hw_lt vsz) (hw_AWn (hw_RM_42 Rm) (by decide) (hw_lt vsz)))
      refine lv_icmp_eq (tgt := 1188) hx hb dL_law_202 (by decide) (fun c124 => ?_) (fun c124 => ?_)
      · have b125 : x13.toInt = x99.toInt := hw_ieq c124
        refine lv_iinc (v := 6) (lv' := [(3, .int 6), (2, .ref mo), (1, .ref x), (0, .ref b)]) hx hb dL_law_1188 hl (k := 0) rfl (by rfl) (by decide) rfl (fun ls hl => ?_)
        refine lv_goto (tgt := 18) hx hb dL_law_1191 (by decide) ?_
        refine lv_iload_n hx hb dL_law_18 rfl (lv_at hl 0 rfl) ?_
        refine lv_aload_n hx hb dL_law_19 rfl (lv_at hl 3 rfl) ?_
        refine va_slen hx hb hX hbl hbA hS dL_law_20 ?_
        refine lv_bipush (v := 6) hx hb dL_law_21 (by decide) ?_
        refine lv_isub hx hb dL_law_23 ?_
        refine lv_topi (fun x126 e127 => ?_)
        have t128 : x126.toInt = (Int32.ofNat L).toInt - 6 := by rw [e127]; exact hw_sub rfl rfl (by omega) (by omega)
        refine lv_icmp_gt (tgt := 1194) hx hb dL_law_24 (by decide) (fun c129 => ?_) (fun c129 => ?_)
        · have b130 : x126.toInt < 6 := hw_ilt c129
          refine lv_iconst (v := 1) hx hb dL_law_1194 (by decide) ?_
          have hfg := hw_hfg hG0 (by decide) hS.2.2
          refine va_forget hfg ?_
          refine W.widen (k := 600000) (n := 7302250) (by decide) (by decide) ?_
          exact lw_ret hx hb hr hlocks dL_law_1195
        · have b131 : 6 ≤ x126.toInt := hw_inlt c129
          exfalso; omega
      · have b132 : x13.toInt ≠ x99.toInt := hw_ine c124
        exfalso
        first | omega | contradiction | (subst_vars; omega)

set_option maxHeartbeats 40000000 in
set_option maxRecDepth 100000 in
theorem hw_case207 {p : Program} {e : Env} {s : State} {m : MethodId} {below : List Frame} {meth : Method} {c : Code} (l : Launch) {b L : Nat} {xs : Nat → Int32} {D : hw_D} {G : Nat → Nat} {H : Heap} {locs : List Loc} {x mo : Nat} {ls : Array Slot} (hL : L ≤ 6) (hL6 : 6 ≤ L) (hx : p.tables.exec = Jvm.exec) (hb : c.code = code) (hr : meth.sig.returnType = ret) (hml : c.maxLocals = 4) (hown : s.vm.findClass R_law = some m.cls) (hts0 : ∀ w ∈ lw_tbl, w.before #[Value.ref b] s = true) (hts : ∀ w ∈ wsL_law, w.before #[Value.ref b] s = true) (hX : va_X b L xs s s.heap) (hbl : b < s.heap.size) (hlocks : meth.locks = false) (hG0 : G = fun _ => 0) (hK : va_K D.1 vwCl (hw_ty D.2.1) s) (hST : hw_ST D.2.2 G s.heap.size s) (hF : hw_F0 D G s H x mo) (hS : va_S (hw_AW G [1, 2, 3, 4, 5, 6, 7, 8, 9, 10, 11, 12, 13, 14, 15, 16, 17, 18, 19, 20, 21, 22, 23, 24, 25, 26, 27, 28, 29, 30, 31, 32, 40, 42, 44, 45, 46, 48, 49, 50, 51, 53, 55, 58, 59, 67, 68, 69, 70, 71, 72, 73, 74, 75, 76, 77, 78, 79, 80, 81, 82, 83, 84, 101, 102, 103, 104, 105, 106, 107, 108, 109, 127, 128, 129, 132] s.heap.size) s.heap H locs) (hl : lv_has ls 4 [(3, .int 0), (2, .ref mo), (1, .ref x), (0, .ref b)]) : W p l e room_1 s m #[Value.ref b] below meth c H locs 200 8000 (lw_Z below #[Value.ref b] s) (F0 m 207 ls []) := by
  have hH0 : hw_HT D G s.heap := fun a h => absurd (by rw [hG0]) h
  have hbA : ¬ (hw_AW G [1, 2, 3, 4, 5, 6, 7, 8, 9, 10, 11, 12, 13, 14, 15, 16, 17, 18, 19, 20, 21, 22, 23, 24, 25, 26, 27, 28, 29, 30, 31, 32, 40, 42, 44, 45, 46, 48, 49, 50, 51, 53, 55, 58, 59, 67, 68, 69, 70, 71, 72, 73, 74, 75, 76, 77, 78, 79, 80, 81, 82, 83, 84, 101, 102, 103, 104, 105, 106, 107, 108, 109, 127, 128, 129, 132] s.heap.size) b := hw_AWn (k := 0) (by rw [hG0]) (by decide) hbl
  have hLi : (Int32.ofNat L).toInt = (L : Int) := nI_toInt (by omega)
  obtain ⟨G1, rx, rc, rt, rn, fq, rm, fro, fik, fla, fsz, hH, hGe1, wx, wm, gx, gm, Rx, vx, Rc, vc, Rt, vt, Rn, vn, vq, hRK, Rm, vm, vro, hro, vik, hik, vla, vsz, hfs⟩ := hF
  have hHs := hH0
  obtain ⟨la, hla⟩ : ∃ z : Nat → Int32, z = fun _ => -1 := ⟨_, rfl⟩
  obtain ⟨sz9, hsz9⟩ : ∃ z : Nat → Int32, z = fun _ => 0 := ⟨_, rfl⟩
  rw [← hla, ← hsz9] at hRK
  have qq := hRK.q
  have qsz : ∀ j, j < 4 → -1 ≤ (fsz j).toInt ∧ (fsz j).toInt ≤ 24 := fun j hj => by rw [hfs j hj]; decide
  have hro0 : (fro 0).toInt = 0 := by rw [hro]; rfl
  have hro1 : (fro 1).toInt = 0 := by rw [hro]; rfl
  have hro2 : (fro 2).toInt = 0 := by rw [hro]; rfl
  have hla1 : (la (xs 1).toNatClampNeg).toInt = -1 := by rw [hla]; rfl
  have hfs1 : 0 ≤ (xs 1).toInt ∧ (xs 1).toInt ≤ 3 → (fsz (xs 1).toNatClampNeg).toInt = -1 := fun h9 => by rw [hfs _ (hw_i4 h9)]; rfl
  have hla2 : (la (xs 2).toNatClampNeg).toInt = -1 := by rw [hla]; rfl
  have hfs2 : 0 ≤ (xs 2).toInt ∧ (xs 2).toInt ≤ 3 → (fsz (xs 2).toNatClampNeg).toInt = -1 := fun h9 => by rw [hfs _ (hw_i4 h9)]; rfl
  have hla3 : (la (xs 3).toNatClampNeg).toInt = -1 := by rw [hla]; rfl
  have hfs3 : 0 ≤ (xs 3).toInt ∧ (xs 3).toInt ≤ 3 → (fsz (xs 3).toNatClampNeg).toInt = -1 := fun h9 => by rw [hfs _ (hw_i4 h9)]; rfl
  have hik1 : (fik (xs 1).toNatClampNeg).toInt = 0 := by rw [hik]; rfl
  refine lv_aload_n hx hb dL_law_207 rfl (lv_at hl 2 rfl) ?_
  refine hw_cM0 (va_runV (As := []) (rest := []) ⟨hx, hb, hml, hown, hts⟩ (k_X11_erase l D G1 x _ rx 0 0 0 0 rt 0 0 0 0 0 0 0 gx Rx ⟨by first | decide | omega, by first | decide | omega⟩ Rt ⟨by first | decide | omega, by first | decide | omega⟩ ⟨by first | decide | omega, by first | decide | omega⟩ ⟨by first | decide | omega, by first | decide | omega⟩ ⟨by first | decide | omega, by first | decide | omega⟩) (cwV 0 hts gL_law_X11_erase rfl rfl rfl (by decide +kernel) ⟨Nat.le_of_ble_eq_true rfl, Nat.le_of_ble_eq_true rfl⟩) (hw_pV (hw_rc (q := (RX11, TX11, 14)) hK vx rfl) hH hK hST hS (by decide) (hw_hG hGe1) ⟨vx, vt⟩) rfl rfl hl.1 rfl (lv_room (Nat.le_of_ble_eq_true rfl)) dL_law_208 ⟨Nat.le_of_ble_eq_true rfl, Nat.le_of_ble_eq_true rfl⟩) hS (hw_AWsub (by decide) hGe1 hS.1) (fun v H locs hp hz hk hS => ?_)
  have l1 : (0 : Int32).toInt = 0 := rfl
  obtain ⟨x2, x3, rfl, hH, v4, v5, g6, q7⟩ := hp
  have q7i := hw_ieq q7
  have hRK := hw_Racks.kept hRK (fun q9 h9 l9 => hk q9 l9 (hw_AWn h9 (by decide) l9))
  have vc := va_at.kept vc (hk _ (hw_lt vc) (hw_AWn (hw_RX_0 Rx) (by decide) (hw_lt vc)))
  have vn := va_at.kept vn (hk _ (hw_lt vn) (hw_AWn (hw_RX_2 Rx) (by decide) (hw_lt vn)))
  have vq := va_at.kept vq (hk _ (hw_lt vq) (hw_AWn (hw_RX_13 Rx) (by decide) (hw_lt vq)))
  have vm := va_at.kept vm (hk _ (hw_lt vm) (hw_AWn gm (by decide) (hw_lt vm)))
  have vro := va_at.kept vro (hk _ (hw_lt vro) (hw_AWn (hw_RM_0 Rm) (by decide) (hw_lt vro)))
  have vik := va_at.kept vik (hk _ (hw_lt vik) (hw_AWn (hw_RM_2 Rm) (by decide) (hw_lt vik)))
  have vla := va_at.kept vla (hk _ (hw_lt vla) (hw_AWn (hw_RM_41 Rm) (by decide) (hw_lt vla)))
  have vsz := va_at.kept vsz (hk _ (hw_lt vsz) (hw_AWn (hw_RM_42 Rm) (by decide) (hw_lt vsz)))
  refine lv_aload_n hx hb dL_law_211 rfl (lv_at hl 1 rfl) ?_
  refine hw_cM0 (va_runV (As := []) (rest := [.int x2]) ⟨hx, hb, hml, hown, hts⟩ (k_X12_erase l D G1 mo _ rm 0 0 0 0 60 0 0 0 0 0 0 0 0 0 gm Rm ⟨by first | decide | omega, by first | decide | omega⟩ ⟨by first | decide | omega, by first | decide | omega⟩ ⟨by first | decide | omega, by first | decide | omega⟩ ⟨by first | decide | omega, by first | decide | omega⟩ ⟨by first | decide | omega, by first | decide | omega⟩ ⟨by first | decide | omega, by first | decide | omega⟩ ⟨by first | decide | omega, by first | decide | omega⟩ ⟨by first | decide | omega, by first | decide | omega⟩ ⟨by first | decide | omega, by first | decide | omega⟩ ⟨by first | decide | omega, by first | decide | omega⟩ ⟨by first | decide | omega, by first | decide | omega⟩ ⟨by first | decide | omega, by first | decide | omega⟩) (cwV 0 hts gL_law_X12_erase rfl rfl rfl (by decide +kernel) ⟨Nat.le_of_ble_eq_true rfl, Nat.le_of_ble_eq_true rfl⟩) (hw_pV (hw_rc (q := (RX12, TX12, 45)) hK vm rfl) hH hK hST hS (by decide) (hw_hG hGe1) vm) rfl rfl hl.1 rfl (lv_room (Nat.le_of_ble_eq_true rfl)) dL_law_212 ⟨Nat.le_of_ble_eq_true rfl, Nat.le_of_ble_eq_true rfl⟩) hS (hw_AWsub (by decide) hGe1 hS.1) (fun v H locs hp hz hk hS => ?_)
  have l8 : (60 : Int32).toInt = 60 := rfl
  obtain ⟨x9, x10, rfl, hH, v11, g12, q13⟩ := hp
  have q13i := hw_ieq q13
  have hRK := hw_Racks.kept hRK (fun q9 h9 l9 => hk q9 l9 (hw_AWn h9 (by decide) l9))
  have v4 := va_at.kept v4 (hk _ (hw_lt v4) (hw_AWn gx (by decide) (hw_lt v4)))
  have vc := va_at.kept vc (hk _ (hw_lt vc) (hw_AWn (hw_RX_0 Rx) (by decide) (hw_lt vc)))
  have v5 := va_at.kept v5 (hk _ (hw_lt v5) (hw_AWn (hw_RX_1 Rx) (by decide) (hw_lt v5)))
  have vn := va_at.kept vn (hk _ (hw_lt vn) (hw_AWn (hw_RX_2 Rx) (by decide) (hw_lt vn)))
  have vq := va_at.kept vq (hk _ (hw_lt vq) (hw_AWn (hw_RX_13 Rx) (by decide) (hw_lt vq)))
  have vro := va_at.kept vro (hk _ (hw_lt vro) (hw_AWn (hw_RM_0 Rm) (by decide) (hw_lt vro)))
  have vik := va_at.kept vik (hk _ (hw_lt vik) (hw_AWn (hw_RM_2 Rm) (by decide) (hw_lt vik)))
  have vla := va_at.kept vla (hk _ (hw_lt vla) (hw_AWn (hw_RM_41 Rm) (by decide) (hw_lt vla)))
  have vsz := va_at.kept vsz (hk _ (hw_lt vsz) (hw_AWn (hw_RM_42 Rm) (by decide) (hw_lt vsz)))
  refine lv_icmp_eq (tgt := 1188) hx hb dL_law_215 (by decide) (fun c14 => ?_) (fun c14 => ?_)
  · have b15 : x2.toInt = x9.toInt := hw_ieq c14
    refine lv_iinc (v := 6) (lv' := [(3, .int 6), (2, .ref mo), (1, .ref x), (0, .ref b)]) hx hb dL_law_1188 hl (k := 0) rfl (by rfl) (by decide) rfl (fun ls hl => ?_)
    refine lv_goto (tgt := 18) hx hb dL_law_1191 (by decide) ?_
    refine lv_iload_n hx hb dL_law_18 rfl (lv_at hl 0 rfl) ?_
    refine lv_aload_n hx hb dL_law_19 rfl (lv_at hl 3 rfl) ?_
    refine va_slen hx hb hX hbl hbA hS dL_law_20 ?_
    refine lv_bipush (v := 6) hx hb dL_law_21 (by decide) ?_
    refine lv_isub hx hb dL_law_23 ?_
    refine lv_topi (fun x16 e17 => ?_)
    have t18 : x16.toInt = (Int32.ofNat L).toInt - 6 := by rw [e17]; exact hw_sub rfl rfl (by omega) (by omega)
    refine lv_icmp_gt (tgt := 1194) hx hb dL_law_24 (by decide) (fun c19 => ?_) (fun c19 => ?_)
    · have b20 : x16.toInt < 6 := hw_ilt c19
      refine lv_iconst (v := 1) hx hb dL_law_1194 (by decide) ?_
      have hfg := hw_hfg hG0 (by decide) hS.2.2
      refine va_forget hfg ?_
      refine W.widen (k := 600000) (n := 7302250) (by decide) (by decide) ?_
      exact lw_ret hx hb hr hlocks dL_law_1195
    · have b21 : 6 ≤ x16.toInt := hw_inlt c19
      exfalso; omega
  · have b22 : x2.toInt ≠ x9.toInt := hw_ine c14
    exfalso
    first | omega | contradiction | (subst_vars; omega)

set_option maxHeartbeats 40000000 in
set_option maxRecDepth 100000 in
theorem hw_case220 {p : Program} {e : Env} {s : State} {m : MethodId} {below : List Frame} {meth : Method} {c : Code} (l : Launch) {b L : Nat} {xs : Nat → Int32} {D : hw_D} {G : Nat → Nat} {H : Heap} {locs : List Loc} {x mo : Nat} {ls : Array Slot} (hL : L ≤ 6) (hL6 : 6 ≤ L) (hx : p.tables.exec = Jvm.exec) (hb : c.code = code) (hr : meth.sig.returnType = ret) (hml : c.maxLocals = 4) (hown : s.vm.findClass R_law = some m.cls) (hts0 : ∀ w ∈ lw_tbl, w.before #[Value.ref b] s = true) (hts : ∀ w ∈ wsL_law, w.before #[Value.ref b] s = true) (hX : va_X b L xs s s.heap) (hbl : b < s.heap.size) (hlocks : meth.locks = false) (hG0 : G = fun _ => 0) (hK : va_K D.1 vwCl (hw_ty D.2.1) s) (hST : hw_ST D.2.2 G s.heap.size s) (hF : hw_F0 D G s H x mo) (hS : va_S (hw_AW G [1, 2, 3, 4, 5, 6, 7, 8, 9, 10, 11, 12, 13, 14, 15, 16, 17, 18, 19, 20, 21, 22, 23, 24, 25, 26, 27, 28, 29, 30, 31, 32, 40, 42, 44, 45, 46, 48, 49, 50, 51, 53, 55, 58, 59, 67, 68, 69, 70, 71, 72, 73, 74, 75, 76, 77, 78, 79, 80, 81, 82, 83, 84, 101, 102, 103, 104, 105, 106, 107, 108, 109, 127, 128, 129, 132] s.heap.size) s.heap H locs) (hl : lv_has ls 4 [(3, .int 0), (2, .ref mo), (1, .ref x), (0, .ref b)]) : W p l e room_1 s m #[Value.ref b] below meth c H locs 200 8000 (lw_Z below #[Value.ref b] s) (F0 m 220 ls []) := by
  have hH0 : hw_HT D G s.heap := fun a h => absurd (by rw [hG0]) h
  have hbA : ¬ (hw_AW G [1, 2, 3, 4, 5, 6, 7, 8, 9, 10, 11, 12, 13, 14, 15, 16, 17, 18, 19, 20, 21, 22, 23, 24, 25, 26, 27, 28, 29, 30, 31, 32, 40, 42, 44, 45, 46, 48, 49, 50, 51, 53, 55, 58, 59, 67, 68, 69, 70, 71, 72, 73, 74, 75, 76, 77, 78, 79, 80, 81, 82, 83, 84, 101, 102, 103, 104, 105, 106, 107, 108, 109, 127, 128, 129, 132] s.heap.size) b := hw_AWn (k := 0) (by rw [hG0]) (by decide) hbl
  have hLi : (Int32.ofNat L).toInt = (L : Int) := nI_toInt (by omega)
  obtain ⟨G1, rx, rc, rt, rn, fq, rm, fro, fik, fla, fsz, hH, hGe1, wx, wm, gx, gm, Rx, vx, Rc, vc, Rt, vt, Rn, vn, vq, hRK, Rm, vm, vro, hro, vik, hik, vla, vsz, hfs⟩ := hF
  have hHs := hH0
  obtain ⟨la, hla⟩ : ∃ z : Nat → Int32, z = fun _ => -1 := ⟨_, rfl⟩
  obtain ⟨sz9, hsz9⟩ : ∃ z : Nat → Int32, z = fun _ => 0 := ⟨_, rfl⟩
  rw [← hla, ← hsz9] at hRK
  have qq := hRK.q
  have qsz : ∀ j, j < 4 → -1 ≤ (fsz j).toInt ∧ (fsz j).toInt ≤ 24 := fun j hj => by rw [hfs j hj]; decide
  have hro0 : (fro 0).toInt = 0 := by rw [hro]; rfl
  have hro1 : (fro 1).toInt = 0 := by rw [hro]; rfl
  have hro2 : (fro 2).toInt = 0 := by rw [hro]; rfl
  have hla1 : (la (xs 1).toNatClampNeg).toInt = -1 := by rw [hla]; rfl
  have hfs1 : 0 ≤ (xs 1).toInt ∧ (xs 1).toInt ≤ 3 → (fsz (xs 1).toNatClampNeg).toInt = -1 := fun h9 => by rw [hfs _ (hw_i4 h9)]; rfl
  have hla2 : (la (xs 2).toNatClampNeg).toInt = -1 := by rw [hla]; rfl
  have hfs2 : 0 ≤ (xs 2).toInt ∧ (xs 2).toInt ≤ 3 → (fsz (xs 2).toNatClampNeg).toInt = -1 := fun h9 => by rw [hfs _ (hw_i4 h9)]; rfl
  have hla3 : (la (xs 3).toNatClampNeg).toInt = -1 := by rw [hla]; rfl
  have hfs3 : 0 ≤ (xs 3).toInt ∧ (xs 3).toInt ≤ 3 → (fsz (xs 3).toNatClampNeg).toInt = -1 := fun h9 => by rw [hfs _ (hw_i4 h9)]; rfl
  have hik1 : (fik (xs 1).toNatClampNeg).toInt = 0 := by rw [hik]; rfl
  refine lv_aload_n hx hb dL_law_220 rfl (lv_at hl 2 rfl) ?_
  refine hw_cM0 (va_runV (As := []) (rest := []) ⟨hx, hb, hml, hown, hts⟩ (k_X11_fault l D G1 x _ rx 0 0 0 0 rt 0 0 0 0 0 0 0 gx Rx ⟨by first | decide | omega, by first | decide | omega⟩ Rt ⟨by first | decide | omega, by first | decide | omega⟩ ⟨by first | decide | omega, by first | decide | omega⟩ ⟨by first | decide | omega, by first | decide | omega⟩ ⟨by first | decide | omega, by first | decide | omega⟩) (cwV 0 hts gL_law_X11_fault rfl rfl rfl (by decide +kernel) ⟨Nat.le_of_ble_eq_true rfl, Nat.le_of_ble_eq_true rfl⟩) (hw_pV (hw_rc (q := (RX11, TX11, 14)) hK vx rfl) hH hK hST hS (by decide) (hw_hG hGe1) ⟨vx, vt⟩) rfl rfl hl.1 rfl (lv_room (Nat.le_of_ble_eq_true rfl)) dL_law_221 ⟨Nat.le_of_ble_eq_true rfl, Nat.le_of_ble_eq_true rfl⟩) hS (hw_AWsub (by decide) hGe1 hS.1) (fun v H locs hp hz hk hS => ?_)
  have l1 : (0 : Int32).toInt = 0 := rfl
  rcases hp with ⟨x2, x3, x4, x5, x6, x7, rfl, hH, v8, v9, g10, g11, g12, q13⟩ | ⟨x14, x15, x16, x17, x18, x19, x20, rfl, hH, v21, v22, g23, g24, g25, g26, q27⟩
  · have hRK := hw_Racks.kept hRK (fun q9 h9 l9 => hk q9 l9 (hw_AWn h9 (by decide) l9))
    have vc := va_at.kept vc (hk _ (hw_lt vc) (hw_AWn (hw_RX_0 Rx) (by decide) (hw_lt vc)))
    have vn := va_at.kept vn (hk _ (hw_lt vn) (hw_AWn (hw_RX_2 Rx) (by decide) (hw_lt vn)))
    have vq := va_at.kept vq (hk _ (hw_lt vq) (hw_AWn (hw_RX_13 Rx) (by decide) (hw_lt vq)))
    have vm := va_at.kept vm (hk _ (hw_lt vm) (hw_AWn gm (by decide) (hw_lt vm)))
    have vro := va_at.kept vro (hk _ (hw_lt vro) (hw_AWn (hw_RM_0 Rm) (by decide) (hw_lt vro)))
    have vik := va_at.kept vik (hk _ (hw_lt vik) (hw_AWn (hw_RM_2 Rm) (by decide) (hw_lt vik)))
    have vla := va_at.kept vla (hk _ (hw_lt vla) (hw_AWn (hw_RM_41 Rm) (by decide) (hw_lt vla)))
    have vsz := va_at.kept vsz (hk _ (hw_lt vsz) (hw_AWn (hw_RM_42 Rm) (by decide) (hw_lt vsz)))
    refine lv_aload_n hx hb dL_law_224 rfl (lv_at hl 1 rfl) ?_
    refine hw_cM0 (va_runV (As := []) (rest := [.int (-1)]) ⟨hx, hb, hml, hown, hts⟩ (k_X12_fault l D G1 mo _ rm 0 0 0 0 60 0 0 0 0 0 0 0 0 0 gm Rm ⟨by first | decide | omega, by first | decide | omega⟩ ⟨by first | decide | omega, by first | decide | omega⟩ ⟨by first | decide | omega, by first | decide | omega⟩ ⟨by first | decide | omega, by first | decide | omega⟩ ⟨by first | decide | omega, by first | decide | omega⟩ ⟨by first | decide | omega, by first | decide | omega⟩ ⟨by first | decide | omega, by first | decide | omega⟩ ⟨by first | decide | omega, by first | decide | omega⟩ ⟨by first | decide | omega, by first | decide | omega⟩ ⟨by first | decide | omega, by first | decide | omega⟩ ⟨by first | decide | omega, by first | decide | omega⟩ ⟨by first | decide | omega, by first | decide | omega⟩) (cwV 0 hts gL_law_X12_fault rfl rfl rfl (by decide +kernel) ⟨Nat.le_of_ble_eq_true rfl, Nat.le_of_ble_eq_true rfl⟩) (hw_pV (hw_rc (q := (RX12, TX12, 45)) hK vm rfl) hH hK hST hS (by decide) (hw_hG hGe1) vm) rfl rfl hl.1 rfl (lv_room (Nat.le_of_ble_eq_true rfl)) dL_law_225 ⟨Nat.le_of_ble_eq_true rfl, Nat.le_of_ble_eq_true rfl⟩) hS (hw_AWsub (by decide) hGe1 hS.1) (fun v H locs hp hz hk hS => ?_)
    have l28 : (60 : Int32).toInt = 60 := rfl
    rcases hp with ⟨x29, x30, x31, x32, x33, x34, x35, x36, x37, x38, x39, rfl, hH, v40, g41, g42, g43, g44, g45, g46, g47, g48, g49, q50⟩ | ⟨x51, x52, x53, x54, x55, x56, x57, x58, x59, x60, x61, x62, rfl, hH, v63, g64, g65, g66, g67, g68, g69, g70, g71, g72, g73, q74⟩
    · have hRK := hw_Racks.kept hRK (fun q9 h9 l9 => hk q9 l9 (hw_AWn h9 (by decide) l9))
      have v8 := va_at.kept v8 (hk _ (hw_lt v8) (hw_AWn gx (by decide) (hw_lt v8)))
      have vc := va_at.kept vc (hk _ (hw_lt vc) (hw_AWn (hw_RX_0 Rx) (by decide) (hw_lt vc)))
      have v9 := va_at.kept v9 (hk _ (hw_lt v9) (hw_AWn (hw_RX_1 Rx) (by decide) (hw_lt v9)))
      have vn := va_at.kept vn (hk _ (hw_lt vn) (hw_AWn (hw_RX_2 Rx) (by decide) (hw_lt vn)))
      have vq := va_at.kept vq (hk _ (hw_lt vq) (hw_AWn (hw_RX_13 Rx) (by decide) (hw_lt vq)))
      have vro := va_at.kept vro (hk _ (hw_lt vro) (hw_AWn (hw_RM_0 Rm) (by decide) (hw_lt vro)))
      have vik := va_at.kept vik (hk _ (hw_lt vik) (hw_AWn (hw_RM_2 Rm) (by decide) (hw_lt vik)))
      have vla := va_at.kept vla (hk _ (hw_lt vla) (hw_AWn (hw_RM_41 Rm) (by decide) (hw_lt vla)))
      have vsz := va_at.kept vsz (hk _ (hw_lt vsz) (hw_AWn (hw_RM_42 Rm) (by decide) (hw_lt vsz)))
      refine lv_icmp_eq (tgt := 1188) hx hb dL_law_228 (by decide) (fun c75 => ?_) (fun c75 => ?_)
      · refine lv_iinc (v := 6) (lv' := [(3, .int 6), (2, .ref mo), (1, .ref x), (0, .ref b)]) hx hb dL_law_1188 hl (k := 0) rfl (by rfl) (by decide) rfl (fun ls hl => ?_)
        refine lv_goto (tgt := 18) hx hb dL_law_1191 (by decide) ?_
        refine lv_iload_n hx hb dL_law_18 rfl (lv_at hl 0 rfl) ?_
        refine lv_aload_n hx hb dL_law_19 rfl (lv_at hl 3 rfl) ?_
        refine va_slen hx hb hX hbl hbA hS dL_law_20 ?_
        refine lv_bipush (v := 6) hx hb dL_law_21 (by decide) ?_
        refine lv_isub hx hb dL_law_23 ?_
        refine lv_topi (fun x76 e77 => ?_)
        have t78 : x76.toInt = (Int32.ofNat L).toInt - 6 := by rw [e77]; exact hw_sub rfl rfl (by omega) (by omega)
        refine lv_icmp_gt (tgt := 1194) hx hb dL_law_24 (by decide) (fun c79 => ?_) (fun c79 => ?_)
        · have b80 : x76.toInt < 6 := hw_ilt c79
          refine lv_iconst (v := 1) hx hb dL_law_1194 (by decide) ?_
          have hfg := hw_hfg hG0 (by decide) hS.2.2
          refine va_forget hfg ?_
          refine W.widen (k := 600000) (n := 7302250) (by decide) (by decide) ?_
          exact lw_ret hx hb hr hlocks dL_law_1195
        · have b81 : 6 ≤ x76.toInt := hw_inlt c79
          exfalso; omega
      · exact absurd c75 (by decide)
    · have hRK := hw_Racks.kept hRK (fun q9 h9 l9 => hk q9 l9 (hw_AWn h9 (by decide) l9))
      have v8 := va_at.kept v8 (hk _ (hw_lt v8) (hw_AWn gx (by decide) (hw_lt v8)))
      have vc := va_at.kept vc (hk _ (hw_lt vc) (hw_AWn (hw_RX_0 Rx) (by decide) (hw_lt vc)))
      have v9 := va_at.kept v9 (hk _ (hw_lt v9) (hw_AWn (hw_RX_1 Rx) (by decide) (hw_lt v9)))
      have vn := va_at.kept vn (hk _ (hw_lt vn) (hw_AWn (hw_RX_2 Rx) (by decide) (hw_lt vn)))
      have vq := va_at.kept vq (hk _ (hw_lt vq) (hw_AWn (hw_RX_13 Rx) (by decide) (hw_lt vq)))
      have vro := va_at.kept vro (hk _ (hw_lt vro) (hw_AWn (hw_RM_0 Rm) (by decide) (hw_lt vro)))
      have vik := va_at.kept vik (hk _ (hw_lt vik) (hw_AWn (hw_RM_2 Rm) (by decide) (hw_lt vik)))
      have vla := va_at.kept vla (hk _ (hw_lt vla) (hw_AWn (hw_RM_41 Rm) (by decide) (hw_lt vla)))
      have vsz := va_at.kept vsz (hk _ (hw_lt vsz) (hw_AWn (hw_RM_42 Rm) (by decide) (hw_lt vsz)))
      refine lv_icmp_eq (tgt := 1188) hx hb dL_law_228 (by decide) (fun c82 => ?_) (fun c82 => ?_)
      · have b83 : (-1) = x51.toInt := hw_ieq c82
        exfalso; omega
      · have b84 : (-1) ≠ x51.toInt := hw_ine c82
        exfalso
        first | omega | contradiction | (subst_vars; omega)
  · have hRK := hw_Racks.kept hRK (fun q9 h9 l9 => hk q9 l9 (hw_AWn h9 (by decide) l9))
    have vc := va_at.kept vc (hk _ (hw_lt vc) (hw_AWn (hw_RX_0 Rx) (by decide) (hw_lt vc)))
    have vn := va_at.kept vn (hk _ (hw_lt vn) (hw_AWn (hw_RX_2 Rx) (by decide) (hw_lt vn)))
    have vq := va_at.kept vq (hk _ (hw_lt vq) (hw_AWn (hw_RX_13 Rx) (by decide) (hw_lt vq)))
    have vm := va_at.kept vm (hk _ (hw_lt vm) (hw_AWn gm (by decide) (hw_lt vm)))
    have vro := va_at.kept vro (hk _ (hw_lt vro) (hw_AWn (hw_RM_0 Rm) (by decide) (hw_lt vro)))
    have vik := va_at.kept vik (hk _ (hw_lt vik) (hw_AWn (hw_RM_2 Rm) (by decide) (hw_lt vik)))
    have vla := va_at.kept vla (hk _ (hw_lt vla) (hw_AWn (hw_RM_41 Rm) (by decide) (hw_lt vla)))
    have vsz := va_at.kept vsz (hk _ (hw_lt vsz) (hw_AWn (hw_RM_42 Rm) (by decide) (hw_lt vsz)))
    refine lv_aload_n hx hb dL_law_224 rfl (lv_at hl 1 rfl) ?_
    refine hw_cM0 (va_runV (As := []) (rest := [.int x14]) ⟨hx, hb, hml, hown, hts⟩ (k_X12_fault l D G1 mo _ rm 0 0 0 0 60 0 0 0 0 0 0 0 0 0 gm Rm ⟨by first | decide | omega, by first | decide | omega⟩ ⟨by first | decide | omega, by first | decide | omega⟩ ⟨by first | decide | omega, by first | decide | omega⟩ ⟨by first | decide | omega, by first | decide | omega⟩ ⟨by first | decide | omega, by first | decide | omega⟩ ⟨by first | decide | omega, by first | decide | omega⟩ ⟨by first | decide | omega, by first | decide | omega⟩ ⟨by first | decide | omega, by first | decide | omega⟩ ⟨by first | decide | omega, by first | decide | omega⟩ ⟨by first | decide | omega, by first | decide | omega⟩ ⟨by first | decide | omega, by first | decide | omega⟩ ⟨by first | decide | omega, by first | decide | omega⟩) (cwV 0 hts gL_law_X12_fault rfl rfl rfl (by decide +kernel) ⟨Nat.le_of_ble_eq_true rfl, Nat.le_of_ble_eq_true rfl⟩) (hw_pV (hw_rc (q := (RX12, TX12, 45)) hK vm rfl) hH hK hST hS (by decide) (hw_hG hGe1) vm) rfl rfl hl.1 rfl (lv_room (Nat.le_of_ble_eq_true rfl)) dL_law_225 ⟨Nat.le_of_ble_eq_true rfl, Nat.le_of_ble_eq_true rfl⟩) hS (hw_AWsub (by decide) hGe1 hS.1) (fun v H locs hp hz hk hS => ?_)
    have l85 : (60 : Int32).toInt = 60 := rfl
    rcases hp with ⟨x86, x87, x88, x89, x90, x91, x92, x93, x94, x95, x96, rfl, hH, v97, g98, g99, g100, g101, g102, g103, g104, g105, g106, q107⟩ | ⟨x108, x109, x110, x111, x112, x113, x114, x115, x116, x117, x118, x119, rfl, hH, v120, g121, g122, g123, g124, g125, g126, g127, g128, g129, g130, q131⟩
    · have hRK := hw_Racks.kept hRK (fun q9 h9 l9 => hk q9 l9 (hw_AWn h9 (by decide) l9))
      have v21 := va_at.kept v21 (hk _ (hw_lt v21) (hw_AWn gx (by decide) (hw_lt v21)))
      have vc := va_at.kept vc (hk _ (hw_lt vc) (hw_AWn (hw_RX_0 Rx) (by decide) (hw_lt vc)))
      have v22 := va_at.kept v22 (hk _ (hw_lt v22) (hw_AWn (hw_RX_1 Rx) (by decide) (hw_lt v22)))
      have vn := va_at.kept vn (hk _ (hw_lt vn) (hw_AWn (hw_RX_2 Rx) (by decide) (hw_lt vn)))
      have vq := va_at.kept vq (hk _ (hw_lt vq) (hw_AWn (hw_RX_13 Rx) (by decide) (hw_lt vq)))
      have vro := va_at.kept vro (hk _ (hw_lt vro) (hw_AWn (hw_RM_0 Rm) (by decide) (hw_lt vro)))
      have vik := va_at.kept vik (hk _ (hw_lt vik) (hw_AWn (hw_RM_2 Rm) (by decide) (hw_lt vik)))
      have vla := va_at.kept vla (hk _ (hw_lt vla) (hw_AWn (hw_RM_41 Rm) (by decide) (hw_lt vla)))
      have vsz := va_at.kept vsz (hk _ (hw_lt vsz) (hw_AWn (hw_RM_42 Rm) (by decide) (hw_lt vsz)))
      refine lv_icmp_eq (tgt := 1188) hx hb dL_law_228 (by decide) (fun c132 => ?_) (fun c132 => ?_)
      · have b133 : x14.toInt = (-1) := hw_ieq c132
        exfalso; omega
      · have b134 : x14.toInt ≠ (-1) := hw_ine c132
        exfalso
        first | omega | contradiction | (subst_vars; omega)
    · have hRK := hw_Racks.kept hRK (fun q9 h9 l9 => hk q9 l9 (hw_AWn h9 (by decide) l9))
      have v21 := va_at.kept v21 (hk _ (hw_lt v21) (hw_AWn gx (by decide) (hw_lt v21)))
      have vc := va_at.kept vc (hk _ (hw_lt vc) (hw_AWn (hw_RX_0 Rx) (by decide) (hw_lt vc)))
      have v22 := va_at.kept v22 (hk _ (hw_lt v22) (hw_AWn (hw_RX_1 Rx) (by decide) (hw_lt v22)))
      have vn := va_at.kept vn (hk _ (hw_lt vn) (hw_AWn (hw_RX_2 Rx) (by decide) (hw_lt vn)))
      have vq := va_at.kept vq (hk _ (hw_lt vq) (hw_AWn (hw_RX_13 Rx) (by decide) (hw_lt vq)))
      have vro := va_at.kept vro (hk _ (hw_lt vro) (hw_AWn (hw_RM_0 Rm) (by decide) (hw_lt vro)))
      have vik := va_at.kept vik (hk _ (hw_lt vik) (hw_AWn (hw_RM_2 Rm) (by decide) (hw_lt vik)))
      have vla := va_at.kept vla (hk _ (hw_lt vla) (hw_AWn (hw_RM_41 Rm) (by decide) (hw_lt vla)))
      have vsz := va_at.kept vsz (hk _ (hw_lt vsz) (hw_AWn (hw_RM_42 Rm) (by decide) (hw_lt vsz)))
      refine lv_icmp_eq (tgt := 1188) hx hb dL_law_228 (by decide) (fun c135 => ?_) (fun c135 => ?_)
      · have b136 : x14.toInt = x108.toInt := hw_ieq c135
        refine lv_iinc (v := 6) (lv' := [(3, .int 6), (2, .ref mo), (1, .ref x), (0, .ref b)]) hx hb dL_law_1188 hl (k := 0) rfl (by rfl) (by decide) rfl (fun ls hl => ?_)
        refine lv_goto (tgt := 18) hx hb dL_law_1191 (by decide) ?_
        refine lv_iload_n hx hb dL_law_18 rfl (lv_at hl 0 rfl) ?_
        refine lv_aload_n hx hb dL_law_19 rfl (lv_at hl 3 rfl) ?_
        refine va_slen hx hb hX hbl hbA hS dL_law_20 ?_
        refine lv_bipush (v := 6) hx hb dL_law_21 (by decide) ?_
        refine lv_isub hx hb dL_law_23 ?_
        refine lv_topi (fun x137 e138 => ?_)
        have t139 : x137.toInt = (Int32.ofNat L).toInt - 6 := by rw [e138]; exact hw_sub rfl rfl (by omega) (by omega)
        refine lv_icmp_gt (tgt := 1194) hx hb dL_law_24 (by decide) (fun c140 => ?_) (fun c140 => ?_)
        · have b141 : x137.toInt < 6 := hw_ilt c140
          refine lv_iconst (v := 1) hx hb dL_law_1194 (by decide) ?_
          have hfg := hw_hfg hG0 (by decide) hS.2.2
          refine va_forget hfg ?_
          refine W.widen (k := 600000) (n := 7302250) (by decide) (by decide) ?_
          exact lw_ret hx hb hr hlocks dL_law_1195
        · have b142 : 6 ≤ x137.toInt := hw_inlt c140
          exfalso; omega
      · have b143 : x14.toInt ≠ x108.toInt := hw_ine c135
        exfalso
        first | omega | contradiction | (subst_vars; omega)

set_option maxHeartbeats 40000000 in
set_option maxRecDepth 100000 in
theorem hw_case233 {p : Program} {e : Env} {s : State} {m : MethodId} {below : List Frame} {meth : Method} {c : Code} (l : Launch) {b L : Nat} {xs : Nat → Int32} {D : hw_D} {G : Nat → Nat} {H : Heap} {locs : List Loc} {x mo : Nat} {ls : Array Slot} (hL : L ≤ 6) (hL6 : 6 ≤ L) (hx : p.tables.exec = Jvm.exec) (hb : c.code = code) (hr : meth.sig.returnType = ret) (hml : c.maxLocals = 4) (hown : s.vm.findClass R_law = some m.cls) (hts0 : ∀ w ∈ lw_tbl, w.before #[Value.ref b] s = true) (hts : ∀ w ∈ wsL_law, w.before #[Value.ref b] s = true) (hX : va_X b L xs s s.heap) (hbl : b < s.heap.size) (hlocks : meth.locks = false) (hG0 : G = fun _ => 0) (hK : va_K D.1 vwCl (hw_ty D.2.1) s) (hST : hw_ST D.2.2 G s.heap.size s) (hF : hw_F0 D G s H x mo) (hS : va_S (hw_AW G [1, 2, 3, 4, 5, 6, 7, 8, 9, 10, 11, 12, 13, 14, 15, 16, 17, 18, 19, 20, 21, 22, 23, 24, 25, 26, 27, 28, 29, 30, 31, 32, 40, 42, 44, 45, 46, 48, 49, 50, 51, 53, 55, 58, 59, 67, 68, 69, 70, 71, 72, 73, 74, 75, 76, 77, 78, 79, 80, 81, 82, 83, 84, 101, 102, 103, 104, 105, 106, 107, 108, 109, 127, 128, 129, 132] s.heap.size) s.heap H locs) (hl : lv_has ls 4 [(3, .int 0), (2, .ref mo), (1, .ref x), (0, .ref b)]) : W p l e room_1 s m #[Value.ref b] below meth c H locs 200 8000 (lw_Z below #[Value.ref b] s) (F0 m 233 ls []) := by
  have hH0 : hw_HT D G s.heap := fun a h => absurd (by rw [hG0]) h
  have hbA : ¬ (hw_AW G [1, 2, 3, 4, 5, 6, 7, 8, 9, 10, 11, 12, 13, 14, 15, 16, 17, 18, 19, 20, 21, 22, 23, 24, 25, 26, 27, 28, 29, 30, 31, 32, 40, 42, 44, 45, 46, 48, 49, 50, 51, 53, 55, 58, 59, 67, 68, 69, 70, 71, 72, 73, 74, 75, 76, 77, 78, 79, 80, 81, 82, 83, 84, 101, 102, 103, 104, 105, 106, 107, 108, 109, 127, 128, 129, 132] s.heap.size) b := hw_AWn (k := 0) (by rw [hG0]) (by decide) hbl
  have hLi : (Int32.ofNat L).toInt = (L : Int) := nI_toInt (by omega)
  obtain ⟨G1, rx, rc, rt, rn, fq, rm, fro, fik, fla, fsz, hH, hGe1, wx, wm, gx, gm, Rx, vx, Rc, vc, Rt, vt, Rn, vn, vq, hRK, Rm, vm, vro, hro, vik, hik, vla, vsz, hfs⟩ := hF
  have hHs := hH0
  obtain ⟨la, hla⟩ : ∃ z : Nat → Int32, z = fun _ => -1 := ⟨_, rfl⟩
  obtain ⟨sz9, hsz9⟩ : ∃ z : Nat → Int32, z = fun _ => 0 := ⟨_, rfl⟩
  rw [← hla, ← hsz9] at hRK
  have qq := hRK.q
  have qsz : ∀ j, j < 4 → -1 ≤ (fsz j).toInt ∧ (fsz j).toInt ≤ 24 := fun j hj => by rw [hfs j hj]; decide
  have hro0 : (fro 0).toInt = 0 := by rw [hro]; rfl
  have hro1 : (fro 1).toInt = 0 := by rw [hro]; rfl
  have hro2 : (fro 2).toInt = 0 := by rw [hro]; rfl
  have hla1 : (la (xs 1).toNatClampNeg).toInt = -1 := by rw [hla]; rfl
  have hfs1 : 0 ≤ (xs 1).toInt ∧ (xs 1).toInt ≤ 3 → (fsz (xs 1).toNatClampNeg).toInt = -1 := fun h9 => by rw [hfs _ (hw_i4 h9)]; rfl
  have hla2 : (la (xs 2).toNatClampNeg).toInt = -1 := by rw [hla]; rfl
  have hfs2 : 0 ≤ (xs 2).toInt ∧ (xs 2).toInt ≤ 3 → (fsz (xs 2).toNatClampNeg).toInt = -1 := fun h9 => by rw [hfs _ (hw_i4 h9)]; rfl
  have hla3 : (la (xs 3).toNatClampNeg).toInt = -1 := by rw [hla]; rfl
  have hfs3 : 0 ≤ (xs 3).toInt ∧ (xs 3).toInt ≤ 3 → (fsz (xs 3).toNatClampNeg).toInt = -1 := fun h9 => by rw [hfs _ (hw_i4 h9)]; rfl
  have hik1 : (fik (xs 1).toNatClampNeg).toInt = 0 := by rw [hik]; rfl
  refine lv_aload_n hx hb dL_law_233 rfl (lv_at hl 2 rfl) ?_
  have hHo := hH
  have hS0 := hS
  refine hw_cM (va_runV (As := []) (rest := []) ⟨hx, hb, hml, hown, hts⟩ (k_X11_land l D G1 x _ rx 0 0 0 0 rt 0 0 0 0 0 0 0 gx Rx ⟨by first | decide | omega, by first | decide | omega⟩ Rt ⟨by first | decide | omega, by first | decide | omega⟩ ⟨by first | decide | omega, by first | decide | omega⟩ ⟨by first | decide | omega, by first | decide | omega⟩ ⟨by first | decide | omega, by first | decide | omega⟩) (cwV 0 hts gL_law_X11_land rfl rfl rfl (by decide +kernel) ⟨Nat.le_of_ble_eq_true rfl, Nat.le_of_ble_eq_true rfl⟩) (hw_pV (hw_rc (q := (RX11, TX11, 14)) hK vx rfl) hH hK hST hS (by decide) (hw_hG hGe1) ⟨vx, vt⟩) rfl rfl hl.1 rfl (lv_room (Nat.le_of_ble_eq_true rfl)) dL_law_234 ⟨Nat.le_of_ble_eq_true rfl, Nat.le_of_ble_eq_true rfl⟩) hS (hw_AWsub (by decide) hGe1 hS.1) (fun v H locs hp hz hk hS => ?_)
  have l4 : (0 : Int32).toInt = 0 := rfl
  rcases hp with ⟨x5, x6, x7, x8, x9, x10, x11, x12, x13, x14, G15, rfl, hH, i16, v17, v18, g19, g20, g21, g22, g23⟩ | ⟨x24, x25, x26, x27, x28, x29, x30, x31, x32, x33, x34, G35, rfl, hH, i36, v37, v38, g39, g40, g41, g42, g43, q44⟩
  · have vq := va_at.kept vq (hk _ (hw_lt vq) (hw_AWn (hw_RX_13 Rx) (by decide) (hw_lt vq)))
    have vm := va_at.kept vm (hk _ (hw_lt vm) (hw_AWn gm (by decide) (hw_lt vm)))
    have vro := va_at.kept vro (hk _ (hw_lt vro) (hw_AWn (hw_RM_0 Rm) (by decide) (hw_lt vro)))
    have vik := va_at.kept vik (hk _ (hw_lt vik) (hw_AWn (hw_RM_2 Rm) (by decide) (hw_lt vik)))
    have vla := va_at.kept vla (hk _ (hw_lt vla) (hw_AWn (hw_RM_41 Rm) (by decide) (hw_lt vla)))
    have vsz := va_at.kept vsz (hk _ (hw_lt vsz) (hw_AWn (hw_RM_42 Rm) (by decide) (hw_lt vsz)))
    have m45 : ∀ a, G1 a ≠ 0 → G1 a < 100 → G15 a = G1 a := fun a h0 _ => i16 a (hHo.lt h0)
    have g46 : ∀ x, x < s.heap.size → G15 x = G x := fun x h9 => (i16 x (Nat.lt_of_lt_of_le h9 hS0.1)).trans (hGe1 x h9)
    have hRK := hw_Racks.grow (hRK.kept (fun q9 h9 l9 => hk q9 l9 (hw_AWn h9 (by decide) l9))) (fun _ _ => rfl) m45
    have k47 := hw_kg m45 gm (by decide) (by decide)
    have k48 := hw_kg m45 gx (by decide) (by decide)
    have R49 := hw_RX_mono m45 Rx
    have k50 := hw_kg m45 (hw_RX_1 Rx) (by decide) (by decide)
    have R51 := hw_RT_mono m45 Rt
    have k52 := hw_kg m45 (hw_RX_13 Rx) (by decide) (by decide)
    have q53 := hw_qn m45 qq (by decide) (by decide)
    have R54 := hw_RM_mono m45 Rm
    have k55 := hw_kg m45 (hw_RM_0 Rm) (by decide) (by decide)
    have k56 := hw_kg m45 (hw_RM_2 Rm) (by decide) (by decide)
    have k57 := hw_kg m45 (hw_RM_41 Rm) (by decide) (by decide)
    have k58 := hw_kg m45 (hw_RM_42 Rm) (by decide) (by decide)
    refine lv_aload_n hx hb dL_law_237 rfl (lv_at hl 1 rfl) ?_
    refine hw_cM0 (va_runV (As := []) (rest := [.int (-4)]) ⟨hx, hb, hml, hown, hts⟩ (k_X12_land l D G15 mo _ rm 0 0 0 0 60 0 0 0 0 0 0 0 0 0 k47 R54 ⟨by first | decide | omega, by first | decide | omega⟩ ⟨by first | decide | omega, by first | decide | omega⟩ ⟨by first | decide | omega, by first | decide | omega⟩ ⟨by first | decide | omega, by first | decide | omega⟩ ⟨by first | decide | omega, by first | decide | omega⟩ ⟨by first | decide | omega, by first | decide | omega⟩ ⟨by first | decide | omega, by first | decide | omega⟩ ⟨by first | decide | omega, by first | decide | omega⟩ ⟨by first | decide | omega, by first | decide | omega⟩ ⟨by first | decide | omega, by first | decide | omega⟩ ⟨by first | decide | omega, by first | decide | omega⟩ ⟨by first | decide | omega, by first | decide | omega⟩) (cwV 0 hts gL_law_X12_land rfl rfl rfl (by decide +kernel) ⟨Nat.le_of_ble_eq_true rfl, Nat.le_of_ble_eq_true rfl⟩) (hw_pV (hw_rc (q := (RX12, TX12, 45)) hK vm rfl) hH hK hST hS (by decide) (hw_hG g46) vm) rfl rfl hl.1 rfl (lv_room (Nat.le_of_ble_eq_true rfl)) dL_law_238 ⟨Nat.le_of_ble_eq_true rfl, Nat.le_of_ble_eq_true rfl⟩) hS (hw_AWsub (by decide) g46 hS.1) (fun v H locs hp hz hk hS => ?_)
    have l59 : (60 : Int32).toInt = 60 := rfl
    rcases hp with ⟨x60, x61, x62, x63, x64, x65, x66, x67, x68, x69, x70, x71, x72, x73, rfl, hH, v74, g75, g76, g77, g78, g79, g80, g81, g82, g83, g84, g85, g86⟩ | ⟨x87, x88, x89, x90, x91, x92, x93, x94, x95, x96, x97, x98, x99, x100, x101, rfl, hH, v102, g103, g104, g105, g106, g107, g108, g109, g110, g111, g112, g113, g114, q115⟩
    · have hRK := hw_Racks.kept hRK (fun q9 h9 l9 => hk q9 l9 (hw_AWn h9 (by decide) l9))
      have v17 := va_at.kept v17 (hk _ (hw_lt v17) (hw_AWn k48 (by decide) (hw_lt v17)))
      have v18 := va_at.kept v18 (hk _ (hw_lt v18) (hw_AWn k50 (by decide) (hw_lt v18)))
      have vq := va_at.kept vq (hk _ (hw_lt vq) (hw_AWn k52 (by decide) (hw_lt vq)))
      have vla := va_at.kept vla (hk _ (hw_lt vla) (hw_AWn k57 (by decide) (hw_lt vla)))
      have vsz := va_at.kept vsz (hk _ (hw_lt vsz) (hw_AWn k58 (by decide) (hw_lt vsz)))
      refine lv_icmp_eq (tgt := 1188) hx hb dL_law_241 (by decide) (fun c116 => ?_) (fun c116 => ?_)
      · refine lv_iinc (v := 6) (lv' := [(3, .int 6), (2, .ref mo), (1, .ref x), (0, .ref b)]) hx hb dL_law_1188 hl (k := 0) rfl (by rfl) (by decide) rfl (fun ls hl => ?_)
        refine lv_goto (tgt := 18) hx hb dL_law_1191 (by decide) ?_
        refine lv_iload_n hx hb dL_law_18 rfl (lv_at hl 0 rfl) ?_
        refine lv_aload_n hx hb dL_law_19 rfl (lv_at hl 3 rfl) ?_
        refine va_slen hx hb hX hbl hbA hS dL_law_20 ?_
        refine lv_bipush (v := 6) hx hb dL_law_21 (by decide) ?_
        refine lv_isub hx hb dL_law_23 ?_
        refine lv_topi (fun x117 e118 => ?_)
        have t119 : x117.toInt = (Int32.ofNat L).toInt - 6 := by rw [e118]; exact hw_sub rfl rfl (by omega) (by omega)
        refine lv_icmp_gt (tgt := 1194) hx hb dL_law_24 (by decide) (fun c120 => ?_) (fun c120 => ?_)
        · have b121 : x117.toInt < 6 := hw_ilt c120
          refine lv_iconst (v := 1) hx hb dL_law_1194 (by decide) ?_
          have hfg := hw_hfg hG0 (by decide) hS.2.2
          refine va_forget hfg ?_
          refine W.widen (k := 600000) (n := 7302250) (by decide) (by decide) ?_
          exact lw_ret hx hb hr hlocks dL_law_1195
        · have b122 : 6 ≤ x117.toInt := hw_inlt c120
          exfalso; omega
      · exact absurd c116 (by decide)
    · have hRK := hw_Racks.kept hRK (fun q9 h9 l9 => hk q9 l9 (hw_AWn h9 (by decide) l9))
      have v17 := va_at.kept v17 (hk _ (hw_lt v17) (hw_AWn k48 (by decide) (hw_lt v17)))
      have v18 := va_at.kept v18 (hk _ (hw_lt v18) (hw_AWn k50 (by decide) (hw_lt v18)))
      have vq := va_at.kept vq (hk _ (hw_lt vq) (hw_AWn k52 (by decide) (hw_lt vq)))
      have vla := va_at.kept vla (hk _ (hw_lt vla) (hw_AWn k57 (by decide) (hw_lt vla)))
      have vsz := va_at.kept vsz (hk _ (hw_lt vsz) (hw_AWn k58 (by decide) (hw_lt vsz)))
      refine lv_icmp_eq (tgt := 1188) hx hb dL_law_241 (by decide) (fun c123 => ?_) (fun c123 => ?_)
      · have b124 : (-4) = x87.toInt := hw_ieq c123
        refine lv_iinc (v := 6) (lv' := [(3, .int 6), (2, .ref mo), (1, .ref x), (0, .ref b)]) hx hb dL_law_1188 hl (k := 0) rfl (by rfl) (by decide) rfl (fun ls hl => ?_)
        refine lv_goto (tgt := 18) hx hb dL_law_1191 (by decide) ?_
        refine lv_iload_n hx hb dL_law_18 rfl (lv_at hl 0 rfl) ?_
        refine lv_aload_n hx hb dL_law_19 rfl (lv_at hl 3 rfl) ?_
        refine va_slen hx hb hX hbl hbA hS dL_law_20 ?_
        refine lv_bipush (v := 6) hx hb dL_law_21 (by decide) ?_
        refine lv_isub hx hb dL_law_23 ?_
        refine lv_topi (fun x125 e126 => ?_)
        have t127 : x125.toInt = (Int32.ofNat L).toInt - 6 := by rw [e126]; exact hw_sub rfl rfl (by omega) (by omega)
        refine lv_icmp_gt (tgt := 1194) hx hb dL_law_24 (by decide) (fun c128 => ?_) (fun c128 => ?_)
        · have b129 : x125.toInt < 6 := hw_ilt c128
          refine lv_iconst (v := 1) hx hb dL_law_1194 (by decide) ?_
          have hfg := hw_hfg hG0 (by decide) hS.2.2
          refine va_forget hfg ?_
          refine W.widen (k := 600000) (n := 7302250) (by decide) (by decide) ?_
          exact lw_ret hx hb hr hlocks dL_law_1195
        · have b130 : 6 ≤ x125.toInt := hw_inlt c128
          exfalso; omega
      · have b131 : (-4) ≠ x87.toInt := hw_ine c123
        exfalso
        first | omega | contradiction | (subst_vars; omega)
  · have vq := va_at.kept vq (hk _ (hw_lt vq) (hw_AWn (hw_RX_13 Rx) (by decide) (hw_lt vq)))
    have vm := va_at.kept vm (hk _ (hw_lt vm) (hw_AWn gm (by decide) (hw_lt vm)))
    have vro := va_at.kept vro (hk _ (hw_lt vro) (hw_AWn (hw_RM_0 Rm) (by decide) (hw_lt vro)))
    have vik := va_at.kept vik (hk _ (hw_lt vik) (hw_AWn (hw_RM_2 Rm) (by decide) (hw_lt vik)))
    have vla := va_at.kept vla (hk _ (hw_lt vla) (hw_AWn (hw_RM_41 Rm) (by decide) (hw_lt vla)))
    have vsz := va_at.kept vsz (hk _ (hw_lt vsz) (hw_AWn (hw_RM_42 Rm) (by decide) (hw_lt vsz)))
    have m132 : ∀ a, G1 a ≠ 0 → G1 a < 100 → G35 a = G1 a := fun a h0 _ => i36 a (hHo.lt h0)
    have g133 : ∀ x, x < s.heap.size → G35 x = G x := fun x h9 => (i36 x (Nat.lt_of_lt_of_le h9 hS0.1)).trans (hGe1 x h9)
    have hRK := hw_Racks.grow (hRK.kept (fun q9 h9 l9 => hk q9 l9 (hw_AWn h9 (by decide) l9))) (fun _ _ => rfl) m132
    have k134 := hw_kg m132 gm (by decide) (by decide)
    have k135 := hw_kg m132 gx (by decide) (by decide)
    have R136 := hw_RX_mono m132 Rx
    have k137 := hw_kg m132 (hw_RX_1 Rx) (by decide) (by decide)
    have R138 := hw_RT_mono m132 Rt
    have k139 := hw_kg m132 (hw_RX_13 Rx) (by decide) (by decide)
    have q140 := hw_qn m132 qq (by decide) (by decide)
    have R141 := hw_RM_mono m132 Rm
    have k142 := hw_kg m132 (hw_RM_0 Rm) (by decide) (by decide)
    have k143 := hw_kg m132 (hw_RM_2 Rm) (by decide) (by decide)
    have k144 := hw_kg m132 (hw_RM_41 Rm) (by decide) (by decide)
    have k145 := hw_kg m132 (hw_RM_42 Rm) (by decide) (by decide)
    refine lv_aload_n hx hb dL_law_237 rfl (lv_at hl 1 rfl) ?_
    refine hw_cM0 (va_runV (As := []) (rest := [.int x24]) ⟨hx, hb, hml, hown, hts⟩ (k_X12_land l D G35 mo _ rm 0 0 0 0 60 0 0 0 0 0 0 0 0 0 k134 R141 ⟨by first | decide | omega, by first | decide | omega⟩ ⟨by first | decide | omega, by first | decide | omega⟩ ⟨by first | decide | omega, by first | decide | omega⟩ ⟨by first | decide | omega, by first | decide | omega⟩ ⟨by first | decide | omega, by first | decide | omega⟩ ⟨by first | decide | omega, by first | decide | omega⟩ ⟨by first | decide | omega, by first | decide | omega⟩ ⟨by first | decide | omega, by first | decide | omega⟩ ⟨by first | decide | omega, by first | decide | omega⟩ ⟨by first | decide | omega, by first | decide | omega⟩ ⟨by first | decide | omega, by first | decide | omega⟩ ⟨by first | decide | omega, by first | decide | omega⟩) (cwV 0 hts gL_law_X12_land rfl rfl rfl (by decide +kernel) ⟨Nat.le_of_ble_eq_true rfl, Nat.le_of_ble_eq_true rfl⟩) (hw_pV (hw_rc (q := (RX12, TX12, 45)) hK vm rfl) hH hK hST hS (by decide) (hw_hG g133) vm) rfl rfl hl.1 rfl (lv_room (Nat.le_of_ble_eq_true rfl)) dL_law_238 ⟨Nat.le_of_ble_eq_true rfl, Nat.le_of_ble_eq_true rfl⟩) hS (hw_AWsub (by decide) g133 hS.1) (fun v H locs hp hz hk hS => ?_)
    have l146 : (60 : Int32).toInt = 60 := rfl
    rcases hp with ⟨x147, x148, x149, x150, x151, x152, x153, x154, x155, x156, x157, x158, x159, x160, rfl, hH, v161, g162, g163, g164, g165, g166, g167, g168, g169, g170, g171, g172, g173⟩ | ⟨x174, x175, x176, x177, x178, x179, x180, x181, x182, x183, x184, x185, x186, x187, x188, rfl, hH, v189, g190, g191, g192, g193, g194, g195, g196, g197, g198, g199, g200, g201, q202⟩
    · have hRK := hw_Racks.kept hRK (fun q9 h9 l9 => hk q9 l9 (hw_AWn h9 (by decide) l9))
      have v37 := va_at.kept v37 (hk _ (hw_lt v37) (hw_AWn k135 (by decide) (hw_lt v37)))
      have v38 := va_at.kept v38 (hk _ (hw_lt v38) (hw_AWn k137 (by decide) (hw_lt v38)))
      have vq := va_at.kept vq (hk _ (hw_lt vq) (hw_AWn k139 (by decide) (hw_lt vq)))
      have vla := va_at.kept vla (hk _ (hw_lt vla) (hw_AWn k144 (by decide) (hw_lt vla)))
      have vsz := va_at.kept vsz (hk _ (hw_lt vsz) (hw_AWn k145 (by decide) (hw_lt vsz)))
      refine lv_icmp_eq (tgt := 1188) hx hb dL_law_241 (by decide) (fun c203 => ?_) (fun c203 => ?_)
      · have b204 : x24.toInt = (-4) := hw_ieq c203
        refine lv_iinc (v := 6) (lv' := [(3, .int 6), (2, .ref mo), (1, .ref x), (0, .ref b)]) hx hb dL_law_1188 hl (k := 0) rfl (by rfl) (by decide) rfl (fun ls hl => ?_)
        refine lv_goto (tgt := 18) hx hb dL_law_1191 (by decide) ?_
        refine lv_iload_n hx hb dL_law_18 rfl (lv_at hl 0 rfl) ?_
        refine lv_aload_n hx hb dL_law_19 rfl (lv_at hl 3 rfl) ?_
        refine va_slen hx hb hX hbl hbA hS dL_law_20 ?_
        refine lv_bipush (v := 6) hx hb dL_law_21 (by decide) ?_
        refine lv_isub hx hb dL_law_23 ?_
        refine lv_topi (fun x205 e206 => ?_)
        have t207 : x205.toInt = (Int32.ofNat L).toInt - 6 := by rw [e206]; exact hw_sub rfl rfl (by omega) (by omega)
        refine lv_icmp_gt (tgt := 1194) hx hb dL_law_24 (by decide) (fun c208 => ?_) (fun c208 => ?_)
        · have b209 : x205.toInt < 6 := hw_ilt c208
          refine lv_iconst (v := 1) hx hb dL_law_1194 (by decide) ?_
          have hfg := hw_hfg hG0 (by decide) hS.2.2
          refine va_forget hfg ?_
          refine W.widen (k := 600000) (n := 7302250) (by decide) (by decide) ?_
          exact lw_ret hx hb hr hlocks dL_law_1195
        · have b210 : 6 ≤ x205.toInt := hw_inlt c208
          exfalso; omega
      · have b211 : x24.toInt ≠ (-4) := hw_ine c203
        exfalso
        first | omega | contradiction | (subst_vars; omega)
    · have hRK := hw_Racks.kept hRK (fun q9 h9 l9 => hk q9 l9 (hw_AWn h9 (by decide) l9))
      have v37 := va_at.kept v37 (hk _ (hw_lt v37) (hw_AWn k135 (by decide) (hw_lt v37)))
      have v38 := va_at.kept v38 (hk _ (hw_lt v38) (hw_AWn k137 (by decide) (hw_lt v38)))
      have vq := va_at.kept vq (hk _ (hw_lt vq) (hw_AWn k139 (by decide) (hw_lt vq)))
      have vla := va_at.kept vla (hk _ (hw_lt vla) (hw_AWn k144 (by decide) (hw_lt vla)))
      have vsz := va_at.kept vsz (hk _ (hw_lt vsz) (hw_AWn k145 (by decide) (hw_lt vsz)))
      refine lv_icmp_eq (tgt := 1188) hx hb dL_law_241 (by decide) (fun c212 => ?_) (fun c212 => ?_)
      · have b213 : x24.toInt = x174.toInt := hw_ieq c212
        refine lv_iinc (v := 6) (lv' := [(3, .int 6), (2, .ref mo), (1, .ref x), (0, .ref b)]) hx hb dL_law_1188 hl (k := 0) rfl (by rfl) (by decide) rfl (fun ls hl => ?_)
        refine lv_goto (tgt := 18) hx hb dL_law_1191 (by decide) ?_
        refine lv_iload_n hx hb dL_law_18 rfl (lv_at hl 0 rfl) ?_
        refine lv_aload_n hx hb dL_law_19 rfl (lv_at hl 3 rfl) ?_
        refine va_slen hx hb hX hbl hbA hS dL_law_20 ?_
        refine lv_bipush (v := 6) hx hb dL_law_21 (by decide) ?_
        refine lv_isub hx hb dL_law_23 ?_
        refine lv_topi (fun x214 e215 => ?_)
        have t216 : x214.toInt = (Int32.ofNat L).toInt - 6 := by rw [e215]; exact hw_sub rfl rfl (by omega) (by omega)
        refine lv_icmp_gt (tgt := 1194) hx hb dL_law_24 (by decide) (fun c217 => ?_) (fun c217 => ?_)
        · have b218 : x214.toInt < 6 := hw_ilt c217
          refine lv_iconst (v := 1) hx hb dL_law_1194 (by decide) ?_
          have hfg := hw_hfg hG0 (by decide) hS.2.2
          refine va_forget hfg ?_
          refine W.widen (k := 600000) (n := 7302250) (by decide) (by decide) ?_
          exact lw_ret hx hb hr hlocks dL_law_1195
        · have b219 : 6 ≤ x214.toInt := hw_inlt c217
          exfalso; omega
      · have b220 : x24.toInt ≠ x174.toInt := hw_ine c212
        exfalso
        first | omega | contradiction | (subst_vars; omega)

set_option maxHeartbeats 40000000 in
set_option maxRecDepth 100000 in
theorem hw_case246 {p : Program} {e : Env} {s : State} {m : MethodId} {below : List Frame} {meth : Method} {c : Code} (l : Launch) {b L : Nat} {xs : Nat → Int32} {D : hw_D} {G : Nat → Nat} {H : Heap} {locs : List Loc} {x mo : Nat} {ls : Array Slot} (hL : L ≤ 6) (hL6 : 6 ≤ L) (hx : p.tables.exec = Jvm.exec) (hb : c.code = code) (hr : meth.sig.returnType = ret) (hml : c.maxLocals = 4) (hown : s.vm.findClass R_law = some m.cls) (hts0 : ∀ w ∈ lw_tbl, w.before #[Value.ref b] s = true) (hts : ∀ w ∈ wsL_law, w.before #[Value.ref b] s = true) (hX : va_X b L xs s s.heap) (hbl : b < s.heap.size) (hlocks : meth.locks = false) (hG0 : G = fun _ => 0) (hK : va_K D.1 vwCl (hw_ty D.2.1) s) (hST : hw_ST D.2.2 G s.heap.size s) (hF : hw_F0 D G s H x mo) (hS : va_S (hw_AW G [1, 2, 3, 4, 5, 6, 7, 8, 9, 10, 11, 12, 13, 14, 15, 16, 17, 18, 19, 20, 21, 22, 23, 24, 25, 26, 27, 28, 29, 30, 31, 32, 40, 42, 44, 45, 46, 48, 49, 50, 51, 53, 55, 58, 59, 67, 68, 69, 70, 71, 72, 73, 74, 75, 76, 77, 78, 79, 80, 81, 82, 83, 84, 101, 102, 103, 104, 105, 106, 107, 108, 109, 127, 128, 129, 132] s.heap.size) s.heap H locs) (hl : lv_has ls 4 [(3, .int 0), (2, .ref mo), (1, .ref x), (0, .ref b)]) : W p l e room_1 s m #[Value.ref b] below meth c H locs 200 8000 (lw_Z below #[Value.ref b] s) (F0 m 246 ls []) := by
  have hH0 : hw_HT D G s.heap := fun a h => absurd (by rw [hG0]) h
  have hbA : ¬ (hw_AW G [1, 2, 3, 4, 5, 6, 7, 8, 9, 10, 11, 12, 13, 14, 15, 16, 17, 18, 19, 20, 21, 22, 23, 24, 25, 26, 27, 28, 29, 30, 31, 32, 40, 42, 44, 45, 46, 48, 49, 50, 51, 53, 55, 58, 59, 67, 68, 69, 70, 71, 72, 73, 74, 75, 76, 77, 78, 79, 80, 81, 82, 83, 84, 101, 102, 103, 104, 105, 106, 107, 108, 109, 127, 128, 129, 132] s.heap.size) b := hw_AWn (k := 0) (by rw [hG0]) (by decide) hbl
  have hLi : (Int32.ofNat L).toInt = (L : Int) := nI_toInt (by omega)
  obtain ⟨G1, rx, rc, rt, rn, fq, rm, fro, fik, fla, fsz, hH, hGe1, wx, wm, gx, gm, Rx, vx, Rc, vc, Rt, vt, Rn, vn, vq, hRK, Rm, vm, vro, hro, vik, hik, vla, vsz, hfs⟩ := hF
  have hHs := hH0
  obtain ⟨la, hla⟩ : ∃ z : Nat → Int32, z = fun _ => -1 := ⟨_, rfl⟩
  obtain ⟨sz9, hsz9⟩ : ∃ z : Nat → Int32, z = fun _ => 0 := ⟨_, rfl⟩
  rw [← hla, ← hsz9] at hRK
  have qq := hRK.q
  have qsz : ∀ j, j < 4 → -1 ≤ (fsz j).toInt ∧ (fsz j).toInt ≤ 24 := fun j hj => by rw [hfs j hj]; decide
  have hro0 : (fro 0).toInt = 0 := by rw [hro]; rfl
  have hro1 : (fro 1).toInt = 0 := by rw [hro]; rfl
  have hro2 : (fro 2).toInt = 0 := by rw [hro]; rfl
  have hla1 : (la (xs 1).toNatClampNeg).toInt = -1 := by rw [hla]; rfl
  have hfs1 : 0 ≤ (xs 1).toInt ∧ (xs 1).toInt ≤ 3 → (fsz (xs 1).toNatClampNeg).toInt = -1 := fun h9 => by rw [hfs _ (hw_i4 h9)]; rfl
  have hla2 : (la (xs 2).toNatClampNeg).toInt = -1 := by rw [hla]; rfl
  have hfs2 : 0 ≤ (xs 2).toInt ∧ (xs 2).toInt ≤ 3 → (fsz (xs 2).toNatClampNeg).toInt = -1 := fun h9 => by rw [hfs _ (hw_i4 h9)]; rfl
  have hla3 : (la (xs 3).toNatClampNeg).toInt = -1 := by rw [hla]; rfl
  have hfs3 : 0 ≤ (xs 3).toInt ∧ (xs 3).toInt ≤ 3 → (fsz (xs 3).toNatClampNeg).toInt = -1 := fun h9 => by rw [hfs _ (hw_i4 h9)]; rfl
  have hik1 : (fik (xs 1).toNatClampNeg).toInt = 0 := by rw [hik]; rfl
  refine lv_aload_n hx hb dL_law_246 rfl (lv_at hl 2 rfl) ?_
  refine lv_aload_n hx hb dL_law_247 rfl (lv_at hl 3 rfl) ?_
  refine lv_iload_n hx hb dL_law_248 rfl (lv_at hl 0 rfl) ?_
  refine lv_iconst (v := 1) hx hb dL_law_249 (by decide) ?_
  refine lv_iadd hx hb dL_law_250 ?_
  refine W.eq (g2 := F0 m 251 ls [.int 1, .ref b, .ref x]) rfl ?_
  refine va_sld hx hb hX hbl hbA hS (hw_in (x := 1) (by decide) (by have h9 : (1 : Int32).toInt = 1 := rfl; omega)) dL_law_251 ?_
  refine W.eq (g2 := F0 m 252 ls [.int (xs 1), .ref x]) rfl ?_
  refine lv_aload_n hx hb dL_law_252 rfl (lv_at hl 3 rfl) ?_
  refine lv_iload_n hx hb dL_law_253 rfl (lv_at hl 0 rfl) ?_
  refine lv_iconst (v := 2) hx hb dL_law_254 (by decide) ?_
  refine lv_iadd hx hb dL_law_255 ?_
  refine W.eq (g2 := F0 m 256 ls [.int 2, .ref b, .int (xs 1), .ref x]) rfl ?_
  refine va_sld hx hb hX hbl hbA hS (hw_in (x := 2) (by decide) (by have h9 : (2 : Int32).toInt = 2 := rfl; omega)) dL_law_256 ?_
  refine W.eq (g2 := F0 m 257 ls [.int (xs 2), .int (xs 1), .ref x]) rfl ?_
  refine hw_cR (va_runV (As := [.int (xs 1), .int (xs 2)]) (rest := []) ⟨hx, hb, hml, hown, hts⟩ (k_X11_key l D G1 x (xs 1) (xs 2) _ rx 0 0 0 0 rc 0 0 0 60 gx Rx ⟨by first | decide | omega, by first | decide | omega⟩ Rc ⟨by first | decide | omega, by first | decide | omega⟩ ⟨by first | decide | omega, by first | decide | omega⟩ ⟨by first | decide | omega, by first | decide | omega⟩) (cwV 2 hts gL_law_X11_key rfl rfl rfl (by decide +kernel) ⟨Nat.le_of_ble_eq_true rfl, Nat.le_of_ble_eq_true rfl⟩) (hw_pV (hw_rc (q := (RX11, TX11, 14)) hK vx rfl) hH hK hST hS (by decide) (hw_hG hGe1) ⟨vx, vc⟩) rfl rfl hl.1 rfl (lv_room (Nat.le_of_ble_eq_true rfl)) dL_law_257 ⟨Nat.le_of_ble_eq_true rfl, Nat.le_of_ble_eq_true rfl⟩) (fun v hp => ?_)
  have l1 : (0 : Int32).toInt = 0 := rfl
  have l2 : (60 : Int32).toInt = 60 := rfl
  obtain ⟨x3, rfl, q4⟩ := hp
  refine lv_aload_n hx hb dL_law_260 rfl (lv_at hl 1 rfl) ?_
  refine lv_aload_n hx hb dL_law_261 rfl (lv_at hl 3 rfl) ?_
  refine lv_iload_n hx hb dL_law_262 rfl (lv_at hl 0 rfl) ?_
  refine lv_iconst (v := 1) hx hb dL_law_263 (by decide) ?_
  refine lv_iadd hx hb dL_law_264 ?_
  refine W.eq (g2 := F0 m 265 ls [.int 1, .ref b, .ref mo, .int x3]) rfl ?_
  refine va_sld hx hb hX hbl hbA hS (hw_in (x := 1) (by decide) (by have h9 : (1 : Int32).toInt = 1 := rfl; omega)) dL_law_265 ?_
  refine W.eq (g2 := F0 m 266 ls [.int (xs 1), .ref mo, .int x3]) rfl ?_
  refine lv_aload_n hx hb dL_law_266 rfl (lv_at hl 3 rfl) ?_
  refine lv_iload_n hx hb dL_law_267 rfl (lv_at hl 0 rfl) ?_
  refine lv_iconst (v := 2) hx hb dL_law_268 (by decide) ?_
  refine lv_iadd hx hb dL_law_269 ?_
  refine W.eq (g2 := F0 m 270 ls [.int 2, .ref b, .int (xs 1), .ref mo, .int x3]) rfl ?_
  refine va_sld hx hb hX hbl hbA hS (hw_in (x := 2) (by decide) (by have h9 : (2 : Int32).toInt = 2 := rfl; omega)) dL_law_270 ?_
  refine W.eq (g2 := F0 m 271 ls [.int (xs 2), .int (xs 1), .ref mo, .int x3]) rfl ?_
  refine hw_cR (va_runV (As := [.int (xs 1), .int (xs 2)]) (rest := [.int x3]) ⟨hx, hb, hml, hown, hts⟩ (k_X12_key l D G1 mo (xs 1) (xs 2) _ rm 0 0 0 0 60 0 0 0 0 0 0 0 0 0 gm Rm ⟨by first | decide | omega, by first | decide | omega⟩ ⟨by first | decide | omega, by first | decide | omega⟩ ⟨by first | decide | omega, by first | decide | omega⟩ ⟨by first | decide | omega, by first | decide | omega⟩ ⟨by first | decide | omega, by first | decide | omega⟩ ⟨by first | decide | omega, by first | decide | omega⟩ ⟨by first | decide | omega, by first | decide | omega⟩ ⟨by first | decide | omega, by first | decide | omega⟩ ⟨by first | decide | omega, by first | decide | omega⟩ ⟨by first | decide | omega, by first | decide | omega⟩ ⟨by first | decide | omega, by first | decide | omega⟩ ⟨by first | decide | omega, by first | decide | omega⟩) (cwV 2 hts gL_law_X12_key rfl rfl rfl (by decide +kernel) ⟨Nat.le_of_ble_eq_true rfl, Nat.le_of_ble_eq_true rfl⟩) (hw_pV (hw_rc (q := (RX12, TX12, 45)) hK vm rfl) hH hK hST hS (by decide) (hw_hG hGe1) vm) rfl rfl hl.1 rfl (lv_room (Nat.le_of_ble_eq_true rfl)) dL_law_271 ⟨Nat.le_of_ble_eq_true rfl, Nat.le_of_ble_eq_true rfl⟩) (fun v hp => ?_)
  obtain ⟨x5, rfl, q6⟩ := hp
  refine lv_icmp_eq (tgt := 1188) hx hb dL_law_274 (by decide) (fun c7 => ?_) (fun c7 => ?_)
  · have b8 : x3.toInt = x5.toInt := hw_ieq c7
    refine lv_iinc (v := 6) (lv' := [(3, .int 6), (2, .ref mo), (1, .ref x), (0, .ref b)]) hx hb dL_law_1188 hl (k := 0) rfl (by rfl) (by decide) rfl (fun ls hl => ?_)
    refine lv_goto (tgt := 18) hx hb dL_law_1191 (by decide) ?_
    refine lv_iload_n hx hb dL_law_18 rfl (lv_at hl 0 rfl) ?_
    refine lv_aload_n hx hb dL_law_19 rfl (lv_at hl 3 rfl) ?_
    refine va_slen hx hb hX hbl hbA hS dL_law_20 ?_
    refine lv_bipush (v := 6) hx hb dL_law_21 (by decide) ?_
    refine lv_isub hx hb dL_law_23 ?_
    refine lv_topi (fun x9 e10 => ?_)
    have t11 : x9.toInt = (Int32.ofNat L).toInt - 6 := by rw [e10]; exact hw_sub rfl rfl (by omega) (by omega)
    refine lv_icmp_gt (tgt := 1194) hx hb dL_law_24 (by decide) (fun c12 => ?_) (fun c12 => ?_)
    · have b13 : x9.toInt < 6 := hw_ilt c12
      refine lv_iconst (v := 1) hx hb dL_law_1194 (by decide) ?_
      have hfg := hw_hfg hG0 (by decide) hS.2.2
      refine va_forget hfg ?_
      refine W.widen (k := 600000) (n := 7302250) (by decide) (by decide) ?_
      exact lw_ret hx hb hr hlocks dL_law_1195
    · have b14 : 6 ≤ x9.toInt := hw_inlt c12
      exfalso; omega
  · have b15 : x3.toInt ≠ x5.toInt := hw_ine c7
    exfalso
    first | omega | contradiction | (subst_vars; omega)

set_option maxHeartbeats 40000000 in
set_option maxRecDepth 100000 in
theorem hw_case279 {p : Program} {e : Env} {s : State} {m : MethodId} {below : List Frame} {meth : Method} {c : Code} (l : Launch) {b L : Nat} {xs : Nat → Int32} {D : hw_D} {G : Nat → Nat} {H : Heap} {locs : List Loc} {x mo : Nat} {ls : Array Slot} (hL : L ≤ 6) (hL6 : 6 ≤ L) (hx : p.tables.exec = Jvm.exec) (hb : c.code = code) (hr : meth.sig.returnType = ret) (hml : c.maxLocals = 4) (hown : s.vm.findClass R_law = some m.cls) (hts0 : ∀ w ∈ lw_tbl, w.before #[Value.ref b] s = true) (hts : ∀ w ∈ wsL_law, w.before #[Value.ref b] s = true) (hX : va_X b L xs s s.heap) (hbl : b < s.heap.size) (hlocks : meth.locks = false) (hG0 : G = fun _ => 0) (hK : va_K D.1 vwCl (hw_ty D.2.1) s) (hST : hw_ST D.2.2 G s.heap.size s) (hF : hw_F0 D G s H x mo) (hS : va_S (hw_AW G [1, 2, 3, 4, 5, 6, 7, 8, 9, 10, 11, 12, 13, 14, 15, 16, 17, 18, 19, 20, 21, 22, 23, 24, 25, 26, 27, 28, 29, 30, 31, 32, 40, 42, 44, 45, 46, 48, 49, 50, 51, 53, 55, 58, 59, 67, 68, 69, 70, 71, 72, 73, 74, 75, 76, 77, 78, 79, 80, 81, 82, 83, 84, 101, 102, 103, 104, 105, 106, 107, 108, 109, 127, 128, 129, 132] s.heap.size) s.heap H locs) (hl : lv_has ls 4 [(3, .int 0), (2, .ref mo), (1, .ref x), (0, .ref b)]) : W p l e room_1 s m #[Value.ref b] below meth c H locs 200 8000 (lw_Z below #[Value.ref b] s) (F0 m 279 ls []) := by
  have hH0 : hw_HT D G s.heap := fun a h => absurd (by rw [hG0]) h
  have hbA : ¬ (hw_AW G [1, 2, 3, 4, 5, 6, 7, 8, 9, 10, 11, 12, 13, 14, 15, 16, 17, 18, 19, 20, 21, 22, 23, 24, 25, 26, 27, 28, 29, 30, 31, 32, 40, 42, 44, 45, 46, 48, 49, 50, 51, 53, 55, 58, 59, 67, 68, 69, 70, 71, 72, 73, 74, 75, 76, 77, 78, 79, 80, 81, 82, 83, 84, 101, 102, 103, 104, 105, 106, 107, 108, 109, 127, 128, 129, 132] s.heap.size) b := hw_AWn (k := 0) (by rw [hG0]) (by decide) hbl
  have hLi : (Int32.ofNat L).toInt = (L : Int) := nI_toInt (by omega)
  obtain ⟨G1, rx, rc, rt, rn, fq, rm, fro, fik, fla, fsz, hH, hGe1, wx, wm, gx, gm, Rx, vx, Rc, vc, Rt, vt, Rn, vn, vq, hRK, Rm, vm, vro, hro, vik, hik, vla, vsz, hfs⟩ := hF
  have hHs := hH0
  obtain ⟨la, hla⟩ : ∃ z : Nat → Int32, z = fun _ => -1 := ⟨_, rfl⟩
  obtain ⟨sz9, hsz9⟩ : ∃ z : Nat → Int32, z = fun _ => 0 := ⟨_, rfl⟩
  rw [← hla, ← hsz9] at hRK
  have qq := hRK.q
  have qsz : ∀ j, j < 4 → -1 ≤ (fsz j).toInt ∧ (fsz j).toInt ≤ 24 := fun j hj => by rw [hfs j hj]; decide
  have hro0 : (fro 0).toInt = 0 := by rw [hro]; rfl
  have hro1 : (fro 1).toInt = 0 := by rw [hro]; rfl
  have hro2 : (fro 2).toInt = 0 := by rw [hro]; rfl
  have hla1 : (la (xs 1).toNatClampNeg).toInt = -1 := by rw [hla]; rfl
  have hfs1 : 0 ≤ (xs 1).toInt ∧ (xs 1).toInt ≤ 3 → (fsz (xs 1).toNatClampNeg).toInt = -1 := fun h9 => by rw [hfs _ (hw_i4 h9)]; rfl
  have hla2 : (la (xs 2).toNatClampNeg).toInt = -1 := by rw [hla]; rfl
  have hfs2 : 0 ≤ (xs 2).toInt ∧ (xs 2).toInt ≤ 3 → (fsz (xs 2).toNatClampNeg).toInt = -1 := fun h9 => by rw [hfs _ (hw_i4 h9)]; rfl
  have hla3 : (la (xs 3).toNatClampNeg).toInt = -1 := by rw [hla]; rfl
  have hfs3 : 0 ≤ (xs 3).toInt ∧ (xs 3).toInt ≤ 3 → (fsz (xs 3).toNatClampNeg).toInt = -1 := fun h9 => by rw [hfs _ (hw_i4 h9)]; rfl
  have hik1 : (fik (xs 1).toNatClampNeg).toInt = 0 := by rw [hik]; rfl
  refine lv_aload_n hx hb dL_law_279 rfl (lv_at hl 2 rfl) ?_
  refine lv_aload_n hx hb dL_law_280 rfl (lv_at hl 3 rfl) ?_
  refine lv_iload_n hx hb dL_law_281 rfl (lv_at hl 0 rfl) ?_
  refine lv_iconst (v := 1) hx hb dL_law_282 (by decide) ?_
  refine lv_iadd hx hb dL_law_283 ?_
  refine W.eq (g2 := F0 m 284 ls [.int 1, .ref b, .ref x]) rfl ?_
  refine va_sld hx hb hX hbl hbA hS (hw_in (x := 1) (by decide) (by have h9 : (1 : Int32).toInt = 1 := rfl; omega)) dL_law_284 ?_
  refine W.eq (g2 := F0 m 285 ls [.int (xs 1), .ref x]) rfl ?_
  refine lv_aload_n hx hb dL_law_285 rfl (lv_at hl 3 rfl) ?_
  refine lv_iload_n hx hb dL_law_286 rfl (lv_at hl 0 rfl) ?_
  refine lv_iconst (v := 2) hx hb dL_law_287 (by decide) ?_
  refine lv_iadd hx hb dL_law_288 ?_
  refine W.eq (g2 := F0 m 289 ls [.int 2, .ref b, .int (xs 1), .ref x]) rfl ?_
  refine va_sld hx hb hX hbl hbA hS (hw_in (x := 2) (by decide) (by have h9 : (2 : Int32).toInt = 2 := rfl; omega)) dL_law_289 ?_
  refine W.eq (g2 := F0 m 290 ls [.int (xs 2), .int (xs 1), .ref x]) rfl ?_
  refine hw_cR (va_runV (As := [.int (xs 1), .int (xs 2)]) (rest := []) ⟨hx, hb, hml, hown, hts⟩ (k_X11_lock l D G1 x (xs 1) (xs 2) _ rx 0 0 0 0 rc 0 0 0 60 gx Rx ⟨by first | decide | omega, by first | decide | omega⟩ Rc ⟨by first | decide | omega, by first | decide | omega⟩ ⟨by first | decide | omega, by first | decide | omega⟩ ⟨by first | decide | omega, by first | decide | omega⟩) (cwV 2 hts gL_law_X11_lock rfl rfl rfl (by decide +kernel) ⟨Nat.le_of_ble_eq_true rfl, Nat.le_of_ble_eq_true rfl⟩) (hw_pV (hw_rc (q := (RX11, TX11, 14)) hK vx rfl) hH hK hST hS (by decide) (hw_hG hGe1) ⟨vx, vc⟩) rfl rfl hl.1 rfl (lv_room (Nat.le_of_ble_eq_true rfl)) dL_law_290 ⟨Nat.le_of_ble_eq_true rfl, Nat.le_of_ble_eq_true rfl⟩) (fun v hp => ?_)
  have l1 : (0 : Int32).toInt = 0 := rfl
  have l2 : (60 : Int32).toInt = 60 := rfl
  obtain ⟨x3, rfl, q4⟩ := hp
  refine lv_aload_n hx hb dL_law_293 rfl (lv_at hl 1 rfl) ?_
  refine lv_aload_n hx hb dL_law_294 rfl (lv_at hl 3 rfl) ?_
  refine lv_iload_n hx hb dL_law_295 rfl (lv_at hl 0 rfl) ?_
  refine lv_iconst (v := 1) hx hb dL_law_296 (by decide) ?_
  refine lv_iadd hx hb dL_law_297 ?_
  refine W.eq (g2 := F0 m 298 ls [.int 1, .ref b, .ref mo, .int x3]) rfl ?_
  refine va_sld hx hb hX hbl hbA hS (hw_in (x := 1) (by decide) (by have h9 : (1 : Int32).toInt = 1 := rfl; omega)) dL_law_298 ?_
  refine W.eq (g2 := F0 m 299 ls [.int (xs 1), .ref mo, .int x3]) rfl ?_
  refine lv_aload_n hx hb dL_law_299 rfl (lv_at hl 3 rfl) ?_
  refine lv_iload_n hx hb dL_law_300 rfl (lv_at hl 0 rfl) ?_
  refine lv_iconst (v := 2) hx hb dL_law_301 (by decide) ?_
  refine lv_iadd hx hb dL_law_302 ?_
  refine W.eq (g2 := F0 m 303 ls [.int 2, .ref b, .int (xs 1), .ref mo, .int x3]) rfl ?_
  refine va_sld hx hb hX hbl hbA hS (hw_in (x := 2) (by decide) (by have h9 : (2 : Int32).toInt = 2 := rfl; omega)) dL_law_303 ?_
  refine W.eq (g2 := F0 m 304 ls [.int (xs 2), .int (xs 1), .ref mo, .int x3]) rfl ?_
  refine hw_cR (va_runV (As := [.int (xs 1), .int (xs 2)]) (rest := [.int x3]) ⟨hx, hb, hml, hown, hts⟩ (k_X12_lock l D G1 mo (xs 1) (xs 2) _ rm 0 0 0 0 60 0 0 0 0 0 0 0 0 0 gm Rm ⟨by first | decide | omega, by first | decide | omega⟩ ⟨by first | decide | omega, by first | decide | omega⟩ ⟨by first | decide | omega, by first | decide | omega⟩ ⟨by first | decide | omega, by first | decide | omega⟩ ⟨by first | decide | omega, by first | decide | omega⟩ ⟨by first | decide | omega, by first | decide | omega⟩ ⟨by first | decide | omega, by first | decide | omega⟩ ⟨by first | decide | omega, by first | decide | omega⟩ ⟨by first | decide | omega, by first | decide | omega⟩ ⟨by first | decide | omega, by first | decide | omega⟩ ⟨by first | decide | omega, by first | decide | omega⟩ ⟨by first | decide | omega, by first | decide | omega⟩) (cwV 2 hts gL_law_X12_lock rfl rfl rfl (by decide +kernel) ⟨Nat.le_of_ble_eq_true rfl, Nat.le_of_ble_eq_true rfl⟩) (hw_pV (hw_rc (q := (RX12, TX12, 45)) hK vm rfl) hH hK hST hS (by decide) (hw_hG hGe1) vm) rfl rfl hl.1 rfl (lv_room (Nat.le_of_ble_eq_true rfl)) dL_law_304 ⟨Nat.le_of_ble_eq_true rfl, Nat.le_of_ble_eq_true rfl⟩) (fun v hp => ?_)
  obtain ⟨x5, rfl, q6⟩ := hp
  refine lv_icmp_eq (tgt := 1188) hx hb dL_law_307 (by decide) (fun c7 => ?_) (fun c7 => ?_)
  · have b8 : x3.toInt = x5.toInt := hw_ieq c7
    refine lv_iinc (v := 6) (lv' := [(3, .int 6), (2, .ref mo), (1, .ref x), (0, .ref b)]) hx hb dL_law_1188 hl (k := 0) rfl (by rfl) (by decide) rfl (fun ls hl => ?_)
    refine lv_goto (tgt := 18) hx hb dL_law_1191 (by decide) ?_
    refine lv_iload_n hx hb dL_law_18 rfl (lv_at hl 0 rfl) ?_
    refine lv_aload_n hx hb dL_law_19 rfl (lv_at hl 3 rfl) ?_
    refine va_slen hx hb hX hbl hbA hS dL_law_20 ?_
    refine lv_bipush (v := 6) hx hb dL_law_21 (by decide) ?_
    refine lv_isub hx hb dL_law_23 ?_
    refine lv_topi (fun x9 e10 => ?_)
    have t11 : x9.toInt = (Int32.ofNat L).toInt - 6 := by rw [e10]; exact hw_sub rfl rfl (by omega) (by omega)
    refine lv_icmp_gt (tgt := 1194) hx hb dL_law_24 (by decide) (fun c12 => ?_) (fun c12 => ?_)
    · have b13 : x9.toInt < 6 := hw_ilt c12
      refine lv_iconst (v := 1) hx hb dL_law_1194 (by decide) ?_
      have hfg := hw_hfg hG0 (by decide) hS.2.2
      refine va_forget hfg ?_
      refine W.widen (k := 600000) (n := 7302250) (by decide) (by decide) ?_
      exact lw_ret hx hb hr hlocks dL_law_1195
    · have b14 : 6 ≤ x9.toInt := hw_inlt c12
      exfalso; omega
  · have b15 : x3.toInt ≠ x5.toInt := hw_ine c7
    exfalso
    first | omega | contradiction | (subst_vars; omega)

set_option maxHeartbeats 40000000 in
set_option maxRecDepth 100000 in
theorem hw_case312 {p : Program} {e : Env} {s : State} {m : MethodId} {below : List Frame} {meth : Method} {c : Code} (l : Launch) {b L : Nat} {xs : Nat → Int32} {D : hw_D} {G : Nat → Nat} {H : Heap} {locs : List Loc} {x mo : Nat} {ls : Array Slot} (hL : L ≤ 6) (hL6 : 6 ≤ L) (hx : p.tables.exec = Jvm.exec) (hb : c.code = code) (hr : meth.sig.returnType = ret) (hml : c.maxLocals = 4) (hown : s.vm.findClass R_law = some m.cls) (hts0 : ∀ w ∈ lw_tbl, w.before #[Value.ref b] s = true) (hts : ∀ w ∈ wsL_law, w.before #[Value.ref b] s = true) (hX : va_X b L xs s s.heap) (hbl : b < s.heap.size) (hlocks : meth.locks = false) (hG0 : G = fun _ => 0) (hK : va_K D.1 vwCl (hw_ty D.2.1) s) (hST : hw_ST D.2.2 G s.heap.size s) (hF : hw_F0 D G s H x mo) (hS : va_S (hw_AW G [1, 2, 3, 4, 5, 6, 7, 8, 9, 10, 11, 12, 13, 14, 15, 16, 17, 18, 19, 20, 21, 22, 23, 24, 25, 26, 27, 28, 29, 30, 31, 32, 40, 42, 44, 45, 46, 48, 49, 50, 51, 53, 55, 58, 59, 67, 68, 69, 70, 71, 72, 73, 74, 75, 76, 77, 78, 79, 80, 81, 82, 83, 84, 101, 102, 103, 104, 105, 106, 107, 108, 109, 127, 128, 129, 132] s.heap.size) s.heap H locs) (hl : lv_has ls 4 [(3, .int 0), (2, .ref mo), (1, .ref x), (0, .ref b)]) : W p l e room_1 s m #[Value.ref b] below meth c H locs 200 8000 (lw_Z below #[Value.ref b] s) (F0 m 312 ls []) := by
  have hH0 : hw_HT D G s.heap := fun a h => absurd (by rw [hG0]) h
  have hbA : ¬ (hw_AW G [1, 2, 3, 4, 5, 6, 7, 8, 9, 10, 11, 12, 13, 14, 15, 16, 17, 18, 19, 20, 21, 22, 23, 24, 25, 26, 27, 28, 29, 30, 31, 32, 40, 42, 44, 45, 46, 48, 49, 50, 51, 53, 55, 58, 59, 67, 68, 69, 70, 71, 72, 73, 74, 75, 76, 77, 78, 79, 80, 81, 82, 83, 84, 101, 102, 103, 104, 105, 106, 107, 108, 109, 127, 128, 129, 132] s.heap.size) b := hw_AWn (k := 0) (by rw [hG0]) (by decide) hbl
  have hLi : (Int32.ofNat L).toInt = (L : Int) := nI_toInt (by omega)
  obtain ⟨G1, rx, rc, rt, rn, fq, rm, fro, fik, fla, fsz, hH, hGe1, wx, wm, gx, gm, Rx, vx, Rc, vc, Rt, vt, Rn, vn, vq, hRK, Rm, vm, vro, hro, vik, hik, vla, vsz, hfs⟩ := hF
  have hHs := hH0
  obtain ⟨la, hla⟩ : ∃ z : Nat → Int32, z = fun _ => -1 := ⟨_, rfl⟩
  obtain ⟨sz9, hsz9⟩ : ∃ z : Nat → Int32, z = fun _ => 0 := ⟨_, rfl⟩
  rw [← hla, ← hsz9] at hRK
  have qq := hRK.q
  have qsz : ∀ j, j < 4 → -1 ≤ (fsz j).toInt ∧ (fsz j).toInt ≤ 24 := fun j hj => by rw [hfs j hj]; decide
  have hro0 : (fro 0).toInt = 0 := by rw [hro]; rfl
  have hro1 : (fro 1).toInt = 0 := by rw [hro]; rfl
  have hro2 : (fro 2).toInt = 0 := by rw [hro]; rfl
  have hla1 : (la (xs 1).toNatClampNeg).toInt = -1 := by rw [hla]; rfl
  have hfs1 : 0 ≤ (xs 1).toInt ∧ (xs 1).toInt ≤ 3 → (fsz (xs 1).toNatClampNeg).toInt = -1 := fun h9 => by rw [hfs _ (hw_i4 h9)]; rfl
  have hla2 : (la (xs 2).toNatClampNeg).toInt = -1 := by rw [hla]; rfl
  have hfs2 : 0 ≤ (xs 2).toInt ∧ (xs 2).toInt ≤ 3 → (fsz (xs 2).toNatClampNeg).toInt = -1 := fun h9 => by rw [hfs _ (hw_i4 h9)]; rfl
  have hla3 : (la (xs 3).toNatClampNeg).toInt = -1 := by rw [hla]; rfl
  have hfs3 : 0 ≤ (xs 3).toInt ∧ (xs 3).toInt ≤ 3 → (fsz (xs 3).toNatClampNeg).toInt = -1 := fun h9 => by rw [hfs _ (hw_i4 h9)]; rfl
  have hik1 : (fik (xs 1).toNatClampNeg).toInt = 0 := by rw [hik]; rfl
  refine lv_aload_n hx hb dL_law_312 rfl (lv_at hl 2 rfl) ?_
  refine lv_aload_n hx hb dL_law_313 rfl (lv_at hl 3 rfl) ?_
  refine lv_iload_n hx hb dL_law_314 rfl (lv_at hl 0 rfl) ?_
  refine lv_iconst (v := 1) hx hb dL_law_315 (by decide) ?_
  refine lv_iadd hx hb dL_law_316 ?_
  refine W.eq (g2 := F0 m 317 ls [.int 1, .ref b, .ref x]) rfl ?_
  refine va_sld hx hb hX hbl hbA hS (hw_in (x := 1) (by decide) (by have h9 : (1 : Int32).toInt = 1 := rfl; omega)) dL_law_317 ?_
  refine W.eq (g2 := F0 m 318 ls [.int (xs 1), .ref x]) rfl ?_
  refine lv_aload_n hx hb dL_law_318 rfl (lv_at hl 3 rfl) ?_
  refine lv_iload_n hx hb dL_law_319 rfl (lv_at hl 0 rfl) ?_
  refine lv_iconst (v := 2) hx hb dL_law_320 (by decide) ?_
  refine lv_iadd hx hb dL_law_321 ?_
  refine W.eq (g2 := F0 m 322 ls [.int 2, .ref b, .int (xs 1), .ref x]) rfl ?_
  refine va_sld hx hb hX hbl hbA hS (hw_in (x := 2) (by decide) (by have h9 : (2 : Int32).toInt = 2 := rfl; omega)) dL_law_322 ?_
  refine W.eq (g2 := F0 m 323 ls [.int (xs 2), .int (xs 1), .ref x]) rfl ?_
  refine hw_cR (va_runV (As := [.int (xs 1), .int (xs 2)]) (rest := []) ⟨hx, hb, hml, hown, hts⟩ (k_X11_walker l D G1 x (xs 1) (xs 2) _ rx 0 0 0 0 rc 0 0 0 60 gx Rx ⟨by first | decide | omega, by first | decide | omega⟩ Rc ⟨by first | decide | omega, by first | decide | omega⟩ ⟨by first | decide | omega, by first | decide | omega⟩ ⟨by first | decide | omega, by first | decide | omega⟩) (cwV 2 hts gL_law_X11_walker rfl rfl rfl (by decide +kernel) ⟨Nat.le_of_ble_eq_true rfl, Nat.le_of_ble_eq_true rfl⟩) (hw_pV (hw_rc (q := (RX11, TX11, 14)) hK vx rfl) hH hK hST hS (by decide) (hw_hG hGe1) ⟨vx, vc⟩) rfl rfl hl.1 rfl (lv_room (Nat.le_of_ble_eq_true rfl)) dL_law_323 ⟨Nat.le_of_ble_eq_true rfl, Nat.le_of_ble_eq_true rfl⟩) (fun v hp => ?_)
  have l1 : (0 : Int32).toInt = 0 := rfl
  have l2 : (60 : Int32).toInt = 60 := rfl
  obtain ⟨x3, rfl, q4⟩ := hp
  refine lv_aload_n hx hb dL_law_326 rfl (lv_at hl 1 rfl) ?_
  refine lv_aload_n hx hb dL_law_327 rfl (lv_at hl 3 rfl) ?_
  refine lv_iload_n hx hb dL_law_328 rfl (lv_at hl 0 rfl) ?_
  refine lv_iconst (v := 1) hx hb dL_law_329 (by decide) ?_
  refine lv_iadd hx hb dL_law_330 ?_
  refine W.eq (g2 := F0 m 331 ls [.int 1, .ref b, .ref mo, .int x3]) rfl ?_
  refine va_sld hx hb hX hbl hbA hS (hw_in (x := 1) (by decide) (by have h9 : (1 : Int32).toInt = 1 := rfl; omega)) dL_law_331 ?_
  refine W.eq (g2 := F0 m 332 ls [.int (xs 1), .ref mo, .int x3]) rfl ?_
  refine lv_aload_n hx hb dL_law_332 rfl (lv_at hl 3 rfl) ?_
  refine lv_iload_n hx hb dL_law_333 rfl (lv_at hl 0 rfl) ?_
  refine lv_iconst (v := 2) hx hb dL_law_334 (by decide) ?_
  refine lv_iadd hx hb dL_law_335 ?_
  refine W.eq (g2 := F0 m 336 ls [.int 2, .ref b, .int (xs 1), .ref mo, .int x3]) rfl ?_
  refine va_sld hx hb hX hbl hbA hS (hw_in (x := 2) (by decide) (by have h9 : (2 : Int32).toInt = 2 := rfl; omega)) dL_law_336 ?_
  refine W.eq (g2 := F0 m 337 ls [.int (xs 2), .int (xs 1), .ref mo, .int x3]) rfl ?_
  refine hw_cR (va_runV (As := [.int (xs 1), .int (xs 2)]) (rest := [.int x3]) ⟨hx, hb, hml, hown, hts⟩ (k_X12_walker l D G1 mo (xs 1) (xs 2) _ rm 0 0 0 0 60 0 0 0 0 0 0 0 0 0 gm Rm ⟨by first | decide | omega, by first | decide | omega⟩ ⟨by first | decide | omega, by first | decide | omega⟩ ⟨by first | decide | omega, by first | decide | omega⟩ ⟨by first | decide | omega, by first | decide | omega⟩ ⟨by first | decide | omega, by first | decide | omega⟩ ⟨by first | decide | omega, by first | decide | omega⟩ ⟨by first | decide | omega, by first | decide | omega⟩ ⟨by first | decide | omega, by first | decide | omega⟩ ⟨by first | decide | omega, by first | decide | omega⟩ ⟨by first | decide | omega, by first | decide | omega⟩ ⟨by first | decide | omega, by first | decide | omega⟩ ⟨by first | decide | omega, by first | decide | omega⟩) (cwV 2 hts gL_law_X12_walker rfl rfl rfl (by decide +kernel) ⟨Nat.le_of_ble_eq_true rfl, Nat.le_of_ble_eq_true rfl⟩) (hw_pV (hw_rc (q := (RX12, TX12, 45)) hK vm rfl) hH hK hST hS (by decide) (hw_hG hGe1) vm) rfl rfl hl.1 rfl (lv_room (Nat.le_of_ble_eq_true rfl)) dL_law_337 ⟨Nat.le_of_ble_eq_true rfl, Nat.le_of_ble_eq_true rfl⟩) (fun v hp => ?_)
  obtain ⟨x5, rfl, q6⟩ := hp
  refine lv_icmp_eq (tgt := 1188) hx hb dL_law_340 (by decide) (fun c7 => ?_) (fun c7 => ?_)
  · have b8 : x3.toInt = x5.toInt := hw_ieq c7
    refine lv_iinc (v := 6) (lv' := [(3, .int 6), (2, .ref mo), (1, .ref x), (0, .ref b)]) hx hb dL_law_1188 hl (k := 0) rfl (by rfl) (by decide) rfl (fun ls hl => ?_)
    refine lv_goto (tgt := 18) hx hb dL_law_1191 (by decide) ?_
    refine lv_iload_n hx hb dL_law_18 rfl (lv_at hl 0 rfl) ?_
    refine lv_aload_n hx hb dL_law_19 rfl (lv_at hl 3 rfl) ?_
    refine va_slen hx hb hX hbl hbA hS dL_law_20 ?_
    refine lv_bipush (v := 6) hx hb dL_law_21 (by decide) ?_
    refine lv_isub hx hb dL_law_23 ?_
    refine lv_topi (fun x9 e10 => ?_)
    have t11 : x9.toInt = (Int32.ofNat L).toInt - 6 := by rw [e10]; exact hw_sub rfl rfl (by omega) (by omega)
    refine lv_icmp_gt (tgt := 1194) hx hb dL_law_24 (by decide) (fun c12 => ?_) (fun c12 => ?_)
    · have b13 : x9.toInt < 6 := hw_ilt c12
      refine lv_iconst (v := 1) hx hb dL_law_1194 (by decide) ?_
      have hfg := hw_hfg hG0 (by decide) hS.2.2
      refine va_forget hfg ?_
      refine W.widen (k := 600000) (n := 7302250) (by decide) (by decide) ?_
      exact lw_ret hx hb hr hlocks dL_law_1195
    · have b14 : 6 ≤ x9.toInt := hw_inlt c12
      exfalso; omega
  · have b15 : x3.toInt ≠ x5.toInt := hw_ine c7
    exfalso
    first | omega | contradiction | (subst_vars; omega)

set_option maxHeartbeats 40000000 in
set_option maxRecDepth 100000 in
theorem hw_case345 {p : Program} {e : Env} {s : State} {m : MethodId} {below : List Frame} {meth : Method} {c : Code} (l : Launch) {b L : Nat} {xs : Nat → Int32} {D : hw_D} {G : Nat → Nat} {H : Heap} {locs : List Loc} {x mo : Nat} {ls : Array Slot} (hL : L ≤ 6) (hL6 : 6 ≤ L) (hx : p.tables.exec = Jvm.exec) (hb : c.code = code) (hr : meth.sig.returnType = ret) (hml : c.maxLocals = 4) (hown : s.vm.findClass R_law = some m.cls) (hts0 : ∀ w ∈ lw_tbl, w.before #[Value.ref b] s = true) (hts : ∀ w ∈ wsL_law, w.before #[Value.ref b] s = true) (hX : va_X b L xs s s.heap) (hbl : b < s.heap.size) (hlocks : meth.locks = false) (hG0 : G = fun _ => 0) (hK : va_K D.1 vwCl (hw_ty D.2.1) s) (hST : hw_ST D.2.2 G s.heap.size s) (hF : hw_F0 D G s H x mo) (hS : va_S (hw_AW G [1, 2, 3, 4, 5, 6, 7, 8, 9, 10, 11, 12, 13, 14, 15, 16, 17, 18, 19, 20, 21, 22, 23, 24, 25, 26, 27, 28, 29, 30, 31, 32, 40, 42, 44, 45, 46, 48, 49, 50, 51, 53, 55, 58, 59, 67, 68, 69, 70, 71, 72, 73, 74, 75, 76, 77, 78, 79, 80, 81, 82, 83, 84, 101, 102, 103, 104, 105, 106, 107, 108, 109, 127, 128, 129, 132] s.heap.size) s.heap H locs) (hl : lv_has ls 4 [(3, .int 0), (2, .ref mo), (1, .ref x), (0, .ref b)]) : W p l e room_1 s m #[Value.ref b] below meth c H locs 200 8000 (lw_Z below #[Value.ref b] s) (F0 m 345 ls []) := by
  have hH0 : hw_HT D G s.heap := fun a h => absurd (by rw [hG0]) h
  have hbA : ¬ (hw_AW G [1, 2, 3, 4, 5, 6, 7, 8, 9, 10, 11, 12, 13, 14, 15, 16, 17, 18, 19, 20, 21, 22, 23, 24, 25, 26, 27, 28, 29, 30, 31, 32, 40, 42, 44, 45, 46, 48, 49, 50, 51, 53, 55, 58, 59, 67, 68, 69, 70, 71, 72, 73, 74, 75, 76, 77, 78, 79, 80, 81, 82, 83, 84, 101, 102, 103, 104, 105, 106, 107, 108, 109, 127, 128, 129, 132] s.heap.size) b := hw_AWn (k := 0) (by rw [hG0]) (by decide) hbl
  have hLi : (Int32.ofNat L).toInt = (L : Int) := nI_toInt (by omega)
  obtain ⟨G1, rx, rc, rt, rn, fq, rm, fro, fik, fla, fsz, hH, hGe1, wx, wm, gx, gm, Rx, vx, Rc, vc, Rt, vt, Rn, vn, vq, hRK, Rm, vm, vro, hro, vik, hik, vla, vsz, hfs⟩ := hF
  have hHs := hH0
  obtain ⟨la, hla⟩ : ∃ z : Nat → Int32, z = fun _ => -1 := ⟨_, rfl⟩
  obtain ⟨sz9, hsz9⟩ : ∃ z : Nat → Int32, z = fun _ => 0 := ⟨_, rfl⟩
  rw [← hla, ← hsz9] at hRK
  have qq := hRK.q
  have qsz : ∀ j, j < 4 → -1 ≤ (fsz j).toInt ∧ (fsz j).toInt ≤ 24 := fun j hj => by rw [hfs j hj]; decide
  have hro0 : (fro 0).toInt = 0 := by rw [hro]; rfl
  have hro1 : (fro 1).toInt = 0 := by rw [hro]; rfl
  have hro2 : (fro 2).toInt = 0 := by rw [hro]; rfl
  have hla1 : (la (xs 1).toNatClampNeg).toInt = -1 := by rw [hla]; rfl
  have hfs1 : 0 ≤ (xs 1).toInt ∧ (xs 1).toInt ≤ 3 → (fsz (xs 1).toNatClampNeg).toInt = -1 := fun h9 => by rw [hfs _ (hw_i4 h9)]; rfl
  have hla2 : (la (xs 2).toNatClampNeg).toInt = -1 := by rw [hla]; rfl
  have hfs2 : 0 ≤ (xs 2).toInt ∧ (xs 2).toInt ≤ 3 → (fsz (xs 2).toNatClampNeg).toInt = -1 := fun h9 => by rw [hfs _ (hw_i4 h9)]; rfl
  have hla3 : (la (xs 3).toNatClampNeg).toInt = -1 := by rw [hla]; rfl
  have hfs3 : 0 ≤ (xs 3).toInt ∧ (xs 3).toInt ≤ 3 → (fsz (xs 3).toNatClampNeg).toInt = -1 := fun h9 => by rw [hfs _ (hw_i4 h9)]; rfl
  have hik1 : (fik (xs 1).toNatClampNeg).toInt = 0 := by rw [hik]; rfl
  refine lv_aload_n hx hb dL_law_345 rfl (lv_at hl 2 rfl) ?_
  refine lv_aload_n hx hb dL_law_346 rfl (lv_at hl 3 rfl) ?_
  refine lv_iload_n hx hb dL_law_347 rfl (lv_at hl 0 rfl) ?_
  refine lv_iconst (v := 1) hx hb dL_law_348 (by decide) ?_
  refine lv_iadd hx hb dL_law_349 ?_
  refine W.eq (g2 := F0 m 350 ls [.int 1, .ref b, .ref x]) rfl ?_
  refine va_sld hx hb hX hbl hbA hS (hw_in (x := 1) (by decide) (by have h9 : (1 : Int32).toInt = 1 := rfl; omega)) dL_law_350 ?_
  refine W.eq (g2 := F0 m 351 ls [.int (xs 1), .ref x]) rfl ?_
  refine lv_aload_n hx hb dL_law_351 rfl (lv_at hl 3 rfl) ?_
  refine lv_iload_n hx hb dL_law_352 rfl (lv_at hl 0 rfl) ?_
  refine lv_iconst (v := 2) hx hb dL_law_353 (by decide) ?_
  refine lv_iadd hx hb dL_law_354 ?_
  refine W.eq (g2 := F0 m 355 ls [.int 2, .ref b, .int (xs 1), .ref x]) rfl ?_
  refine va_sld hx hb hX hbl hbA hS (hw_in (x := 2) (by decide) (by have h9 : (2 : Int32).toInt = 2 := rfl; omega)) dL_law_355 ?_
  refine W.eq (g2 := F0 m 356 ls [.int (xs 2), .int (xs 1), .ref x]) rfl ?_
  refine lv_aload_n hx hb dL_law_356 rfl (lv_at hl 3 rfl) ?_
  refine lv_iload_n hx hb dL_law_357 rfl (lv_at hl 0 rfl) ?_
  refine lv_iconst (v := 3) hx hb dL_law_358 (by decide) ?_
  refine lv_iadd hx hb dL_law_359 ?_
  refine W.eq (g2 := F0 m 360 ls [.int 3, .ref b, .int (xs 2), .int (xs 1), .ref x]) rfl ?_
  refine va_sld hx hb hX hbl hbA hS (hw_in (x := 3) (by decide) (by have h9 : (3 : Int32).toInt = 3 := rfl; omega)) dL_law_360 ?_
  refine W.eq (g2 := F0 m 361 ls [.int (xs 3), .int (xs 2), .int (xs 1), .ref x]) rfl ?_
  refine hw_cR (va_runV (As := [.int (xs 1), .int (xs 2), .int (xs 3)]) (rest := []) ⟨hx, hb, hml, hown, hts⟩ (k_X11_goes l D G1 x (xs 1) (xs 2) (xs 3) _ rx 0 0 0 0 rc 0 0 0 60 gx Rx ⟨by first | decide | omega, by first | decide | omega⟩ Rc ⟨by first | decide | omega, by first | decide | omega⟩ ⟨by first | decide | omega, by first | decide | omega⟩ ⟨by first | decide | omega, by first | decide | omega⟩) (cwV 3 hts gL_law_X11_goes rfl rfl rfl (by decide +kernel) ⟨Nat.le_of_ble_eq_true rfl, Nat.le_of_ble_eq_true rfl⟩) (hw_pV (hw_rc (q := (RX11, TX11, 14)) hK vx rfl) hH hK hST hS (by decide) (hw_hG hGe1) ⟨vx, vc⟩) rfl rfl hl.1 rfl (lv_room (Nat.le_of_ble_eq_true rfl)) dL_law_361 ⟨Nat.le_of_ble_eq_true rfl, Nat.le_of_ble_eq_true rfl⟩) (fun v hp => ?_)
  have l1 : (0 : Int32).toInt = 0 := rfl
  have l2 : (60 : Int32).toInt = 60 := rfl
  obtain ⟨x3, rfl, q4⟩ := hp
  refine lv_aload_n hx hb dL_law_364 rfl (lv_at hl 1 rfl) ?_
  refine lv_aload_n hx hb dL_law_365 rfl (lv_at hl 3 rfl) ?_
  refine lv_iload_n hx hb dL_law_366 rfl (lv_at hl 0 rfl) ?_
  refine lv_iconst (v := 1) hx hb dL_law_367 (by decide) ?_
  refine lv_iadd hx hb dL_law_368 ?_
  refine W.eq (g2 := F0 m 369 ls [.int 1, .ref b, .ref mo, .int x3]) rfl ?_
  refine va_sld hx hb hX hbl hbA hS (hw_in (x := 1) (by decide) (by have h9 : (1 : Int32).toInt = 1 := rfl; omega)) dL_law_369 ?_
  refine W.eq (g2 := F0 m 370 ls [.int (xs 1), .ref mo, .int x3]) rfl ?_
  refine lv_aload_n hx hb dL_law_370 rfl (lv_at hl 3 rfl) ?_
  refine lv_iload_n hx hb dL_law_371 rfl (lv_at hl 0 rfl) ?_
  refine lv_iconst (v := 2) hx hb dL_law_372 (by decide) ?_
  refine lv_iadd hx hb dL_law_373 ?_
  refine W.eq (g2 := F0 m 374 ls [.int 2, .ref b, .int (xs 1), .ref mo, .int x3]) rfl ?_
  refine va_sld hx hb hX hbl hbA hS (hw_in (x := 2) (by decide) (by have h9 : (2 : Int32).toInt = 2 := rfl; omega)) dL_law_374 ?_
  refine W.eq (g2 := F0 m 375 ls [.int (xs 2), .int (xs 1), .ref mo, .int x3]) rfl ?_
  refine lv_aload_n hx hb dL_law_375 rfl (lv_at hl 3 rfl) ?_
  refine lv_iload_n hx hb dL_law_376 rfl (lv_at hl 0 rfl) ?_
  refine lv_iconst (v := 3) hx hb dL_law_377 (by decide) ?_
  refine lv_iadd hx hb dL_law_378 ?_
  refine W.eq (g2 := F0 m 379 ls [.int 3, .ref b, .int (xs 2), .int (xs 1), .ref mo, .int x3]) rfl ?_
  refine va_sld hx hb hX hbl hbA hS (hw_in (x := 3) (by decide) (by have h9 : (3 : Int32).toInt = 3 := rfl; omega)) dL_law_379 ?_
  refine W.eq (g2 := F0 m 380 ls [.int (xs 3), .int (xs 2), .int (xs 1), .ref mo, .int x3]) rfl ?_
  refine hw_cR (va_runV (As := [.int (xs 1), .int (xs 2), .int (xs 3)]) (rest := [.int x3]) ⟨hx, hb, hml, hown, hts⟩ (k_X12_goes l D G1 mo (xs 1) (xs 2) (xs 3) _ rm 0 0 0 0 60 0 0 0 0 0 0 0 0 0 gm Rm ⟨by first | decide | omega, by first | decide | omega⟩ ⟨by first | decide | omega, by first | decide | omega⟩ ⟨by first | decide | omega, by first | decide | omega⟩ ⟨by first | decide | omega, by first | decide | omega⟩ ⟨by first | decide | omega, by first | decide | omega⟩ ⟨by first | decide | omega, by first | decide | omega⟩ ⟨by first | decide | omega, by first | decide | omega⟩ ⟨by first | decide | omega, by first | decide | omega⟩ ⟨by first | decide | omega, by first | decide | omega⟩ ⟨by first | decide | omega, by first | decide | omega⟩ ⟨by first | decide | omega, by first | decide | omega⟩ ⟨by first | decide | omega, by first | decide | omega⟩) (cwV 3 hts gL_law_X12_goes rfl rfl rfl (by decide +kernel) ⟨Nat.le_of_ble_eq_true rfl, Nat.le_of_ble_eq_true rfl⟩) (hw_pV (hw_rc (q := (RX12, TX12, 45)) hK vm rfl) hH hK hST hS (by decide) (hw_hG hGe1) vm) rfl rfl hl.1 rfl (lv_room (Nat.le_of_ble_eq_true rfl)) dL_law_380 ⟨Nat.le_of_ble_eq_true rfl, Nat.le_of_ble_eq_true rfl⟩) (fun v hp => ?_)
  obtain ⟨x5, rfl, q6⟩ := hp
  refine lv_icmp_eq (tgt := 1188) hx hb dL_law_383 (by decide) (fun c7 => ?_) (fun c7 => ?_)
  · have b8 : x3.toInt = x5.toInt := hw_ieq c7
    refine lv_iinc (v := 6) (lv' := [(3, .int 6), (2, .ref mo), (1, .ref x), (0, .ref b)]) hx hb dL_law_1188 hl (k := 0) rfl (by rfl) (by decide) rfl (fun ls hl => ?_)
    refine lv_goto (tgt := 18) hx hb dL_law_1191 (by decide) ?_
    refine lv_iload_n hx hb dL_law_18 rfl (lv_at hl 0 rfl) ?_
    refine lv_aload_n hx hb dL_law_19 rfl (lv_at hl 3 rfl) ?_
    refine va_slen hx hb hX hbl hbA hS dL_law_20 ?_
    refine lv_bipush (v := 6) hx hb dL_law_21 (by decide) ?_
    refine lv_isub hx hb dL_law_23 ?_
    refine lv_topi (fun x9 e10 => ?_)
    have t11 : x9.toInt = (Int32.ofNat L).toInt - 6 := by rw [e10]; exact hw_sub rfl rfl (by omega) (by omega)
    refine lv_icmp_gt (tgt := 1194) hx hb dL_law_24 (by decide) (fun c12 => ?_) (fun c12 => ?_)
    · have b13 : x9.toInt < 6 := hw_ilt c12
      refine lv_iconst (v := 1) hx hb dL_law_1194 (by decide) ?_
      have hfg := hw_hfg hG0 (by decide) hS.2.2
      refine va_forget hfg ?_
      refine W.widen (k := 600000) (n := 7302250) (by decide) (by decide) ?_
      exact lw_ret hx hb hr hlocks dL_law_1195
    · have b14 : 6 ≤ x9.toInt := hw_inlt c12
      exfalso; omega
  · have b15 : x3.toInt ≠ x5.toInt := hw_ine c7
    exfalso
    first | omega | contradiction | (subst_vars; omega)

set_option maxHeartbeats 40000000 in
set_option maxRecDepth 100000 in
theorem hw_case388 {p : Program} {e : Env} {s : State} {m : MethodId} {below : List Frame} {meth : Method} {c : Code} (l : Launch) {b L : Nat} {xs : Nat → Int32} {D : hw_D} {G : Nat → Nat} {H : Heap} {locs : List Loc} {x mo : Nat} {ls : Array Slot} (hL : L ≤ 6) (hL6 : 6 ≤ L) (hx : p.tables.exec = Jvm.exec) (hb : c.code = code) (hr : meth.sig.returnType = ret) (hml : c.maxLocals = 4) (hown : s.vm.findClass R_law = some m.cls) (hts0 : ∀ w ∈ lw_tbl, w.before #[Value.ref b] s = true) (hts : ∀ w ∈ wsL_law, w.before #[Value.ref b] s = true) (hX : va_X b L xs s s.heap) (hbl : b < s.heap.size) (hlocks : meth.locks = false) (hG0 : G = fun _ => 0) (hK : va_K D.1 vwCl (hw_ty D.2.1) s) (hST : hw_ST D.2.2 G s.heap.size s) (hF : hw_F0 D G s H x mo) (hS : va_S (hw_AW G [1, 2, 3, 4, 5, 6, 7, 8, 9, 10, 11, 12, 13, 14, 15, 16, 17, 18, 19, 20, 21, 22, 23, 24, 25, 26, 27, 28, 29, 30, 31, 32, 40, 42, 44, 45, 46, 48, 49, 50, 51, 53, 55, 58, 59, 67, 68, 69, 70, 71, 72, 73, 74, 75, 76, 77, 78, 79, 80, 81, 82, 83, 84, 101, 102, 103, 104, 105, 106, 107, 108, 109, 127, 128, 129, 132] s.heap.size) s.heap H locs) (hl : lv_has ls 4 [(3, .int 0), (2, .ref mo), (1, .ref x), (0, .ref b)]) : W p l e room_1 s m #[Value.ref b] below meth c H locs 200 8000 (lw_Z below #[Value.ref b] s) (F0 m 388 ls []) := by
  have hH0 : hw_HT D G s.heap := fun a h => absurd (by rw [hG0]) h
  have hbA : ¬ (hw_AW G [1, 2, 3, 4, 5, 6, 7, 8, 9, 10, 11, 12, 13, 14, 15, 16, 17, 18, 19, 20, 21, 22, 23, 24, 25, 26, 27, 28, 29, 30, 31, 32, 40, 42, 44, 45, 46, 48, 49, 50, 51, 53, 55, 58, 59, 67, 68, 69, 70, 71, 72, 73, 74, 75, 76, 77, 78, 79, 80, 81, 82, 83, 84, 101, 102, 103, 104, 105, 106, 107, 108, 109, 127, 128, 129, 132] s.heap.size) b := hw_AWn (k := 0) (by rw [hG0]) (by decide) hbl
  have hLi : (Int32.ofNat L).toInt = (L : Int) := nI_toInt (by omega)
  obtain ⟨G1, rx, rc, rt, rn, fq, rm, fro, fik, fla, fsz, hH, hGe1, wx, wm, gx, gm, Rx, vx, Rc, vc, Rt, vt, Rn, vn, vq, hRK, Rm, vm, vro, hro, vik, hik, vla, vsz, hfs⟩ := hF
  have hHs := hH0
  obtain ⟨la, hla⟩ : ∃ z : Nat → Int32, z = fun _ => -1 := ⟨_, rfl⟩
  obtain ⟨sz9, hsz9⟩ : ∃ z : Nat → Int32, z = fun _ => 0 := ⟨_, rfl⟩
  rw [← hla, ← hsz9] at hRK
  have qq := hRK.q
  have qsz : ∀ j, j < 4 → -1 ≤ (fsz j).toInt ∧ (fsz j).toInt ≤ 24 := fun j hj => by rw [hfs j hj]; decide
  have hro0 : (fro 0).toInt = 0 := by rw [hro]; rfl
  have hro1 : (fro 1).toInt = 0 := by rw [hro]; rfl
  have hro2 : (fro 2).toInt = 0 := by rw [hro]; rfl
  have hla1 : (la (xs 1).toNatClampNeg).toInt = -1 := by rw [hla]; rfl
  have hfs1 : 0 ≤ (xs 1).toInt ∧ (xs 1).toInt ≤ 3 → (fsz (xs 1).toNatClampNeg).toInt = -1 := fun h9 => by rw [hfs _ (hw_i4 h9)]; rfl
  have hla2 : (la (xs 2).toNatClampNeg).toInt = -1 := by rw [hla]; rfl
  have hfs2 : 0 ≤ (xs 2).toInt ∧ (xs 2).toInt ≤ 3 → (fsz (xs 2).toNatClampNeg).toInt = -1 := fun h9 => by rw [hfs _ (hw_i4 h9)]; rfl
  have hla3 : (la (xs 3).toNatClampNeg).toInt = -1 := by rw [hla]; rfl
  have hfs3 : 0 ≤ (xs 3).toInt ∧ (xs 3).toInt ≤ 3 → (fsz (xs 3).toNatClampNeg).toInt = -1 := fun h9 => by rw [hfs _ (hw_i4 h9)]; rfl
  have hik1 : (fik (xs 1).toNatClampNeg).toInt = 0 := by rw [hik]; rfl
  refine lv_aload_n hx hb dL_law_388 rfl (lv_at hl 2 rfl) ?_
  refine lv_aload_n hx hb dL_law_389 rfl (lv_at hl 3 rfl) ?_
  refine lv_iload_n hx hb dL_law_390 rfl (lv_at hl 0 rfl) ?_
  refine lv_iconst (v := 1) hx hb dL_law_391 (by decide) ?_
  refine lv_iadd hx hb dL_law_392 ?_
  refine W.eq (g2 := F0 m 393 ls [.int 1, .ref b, .ref x]) rfl ?_
  refine va_sld hx hb hX hbl hbA hS (hw_in (x := 1) (by decide) (by have h9 : (1 : Int32).toInt = 1 := rfl; omega)) dL_law_393 ?_
  refine W.eq (g2 := F0 m 394 ls [.int (xs 1), .ref x]) rfl ?_
  refine lv_aload_n hx hb dL_law_394 rfl (lv_at hl 3 rfl) ?_
  refine lv_iload_n hx hb dL_law_395 rfl (lv_at hl 0 rfl) ?_
  refine lv_iconst (v := 2) hx hb dL_law_396 (by decide) ?_
  refine lv_iadd hx hb dL_law_397 ?_
  refine W.eq (g2 := F0 m 398 ls [.int 2, .ref b, .int (xs 1), .ref x]) rfl ?_
  refine va_sld hx hb hX hbl hbA hS (hw_in (x := 2) (by decide) (by have h9 : (2 : Int32).toInt = 2 := rfl; omega)) dL_law_398 ?_
  refine W.eq (g2 := F0 m 399 ls [.int (xs 2), .int (xs 1), .ref x]) rfl ?_
  refine hw_cR (va_runV (As := [.int (xs 1), .int (xs 2)]) (rest := []) ⟨hx, hb, hml, hown, hts⟩ (k_X11_as l D G1 x (xs 1) (xs 2) _ rx 0 0 0 0 rc 0 0 0 60 gx Rx ⟨by first | decide | omega, by first | decide | omega⟩ Rc ⟨by first | decide | omega, by first | decide | omega⟩ ⟨by first | decide | omega, by first | decide | omega⟩ ⟨by first | decide | omega, by first | decide | omega⟩) (cwV 2 hts gL_law_X11_as rfl rfl rfl (by decide +kernel) ⟨Nat.le_of_ble_eq_true rfl, Nat.le_of_ble_eq_true rfl⟩) (hw_pV (hw_rc (q := (RX11, TX11, 14)) hK vx rfl) hH hK hST hS (by decide) (hw_hG hGe1) ⟨vx, vc⟩) rfl rfl hl.1 rfl (lv_room (Nat.le_of_ble_eq_true rfl)) dL_law_399 ⟨Nat.le_of_ble_eq_true rfl, Nat.le_of_ble_eq_true rfl⟩) (fun v hp => ?_)
  have l1 : (0 : Int32).toInt = 0 := rfl
  have l2 : (60 : Int32).toInt = 60 := rfl
  obtain ⟨x3, rfl, q4⟩ := hp
  refine lv_aload_n hx hb dL_law_402 rfl (lv_at hl 1 rfl) ?_
  refine lv_aload_n hx hb dL_law_403 rfl (lv_at hl 3 rfl) ?_
  refine lv_iload_n hx hb dL_law_404 rfl (lv_at hl 0 rfl) ?_
  refine lv_iconst (v := 1) hx hb dL_law_405 (by decide) ?_
  refine lv_iadd hx hb dL_law_406 ?_
  refine W.eq (g2 := F0 m 407 ls [.int 1, .ref b, .ref mo, .int x3]) rfl ?_
  refine va_sld hx hb hX hbl hbA hS (hw_in (x := 1) (by decide) (by have h9 : (1 : Int32).toInt = 1 := rfl; omega)) dL_law_407 ?_
  refine W.eq (g2 := F0 m 408 ls [.int (xs 1), .ref mo, .int x3]) rfl ?_
  refine lv_aload_n hx hb dL_law_408 rfl (lv_at hl 3 rfl) ?_
  refine lv_iload_n hx hb dL_law_409 rfl (lv_at hl 0 rfl) ?_
  refine lv_iconst (v := 2) hx hb dL_law_410 (by decide) ?_
  refine lv_iadd hx hb dL_law_411 ?_
  refine W.eq (g2 := F0 m 412 ls [.int 2, .ref b, .int (xs 1), .ref mo, .int x3]) rfl ?_
  refine va_sld hx hb hX hbl hbA hS (hw_in (x := 2) (by decide) (by have h9 : (2 : Int32).toInt = 2 := rfl; omega)) dL_law_412 ?_
  refine W.eq (g2 := F0 m 413 ls [.int (xs 2), .int (xs 1), .ref mo, .int x3]) rfl ?_
  refine hw_cR (va_runV (As := [.int (xs 1), .int (xs 2)]) (rest := [.int x3]) ⟨hx, hb, hml, hown, hts⟩ (k_X12_as l D G1 mo (xs 1) (xs 2) _ rm 0 0 0 0 60 0 0 0 0 0 0 0 0 0 gm Rm ⟨by first | decide | omega, by first | decide | omega⟩ ⟨by first | decide | omega, by first | decide | omega⟩ ⟨by first | decide | omega, by first | decide | omega⟩ ⟨by first | decide | omega, by first | decide | omega⟩ ⟨by first | decide | omega, by first | decide | omega⟩ ⟨by first | decide | omega, by first | decide | omega⟩ ⟨by first | decide | omega, by first | decide | omega⟩ ⟨by first | decide | omega, by first | decide | omega⟩ ⟨by first | decide | omega, by first | decide | omega⟩ ⟨by first | decide | omega, by first | decide | omega⟩ ⟨by first | decide | omega, by first | decide | omega⟩ ⟨by first | decide | omega, by first | decide | omega⟩) (cwV 2 hts gL_law_X12_as rfl rfl rfl (by decide +kernel) ⟨Nat.le_of_ble_eq_true rfl, Nat.le_of_ble_eq_true rfl⟩) (hw_pV (hw_rc (q := (RX12, TX12, 45)) hK vm rfl) hH hK hST hS (by decide) (hw_hG hGe1) vm) rfl rfl hl.1 rfl (lv_room (Nat.le_of_ble_eq_true rfl)) dL_law_413 ⟨Nat.le_of_ble_eq_true rfl, Nat.le_of_ble_eq_true rfl⟩) (fun v hp => ?_)
  obtain ⟨x5, rfl, q6⟩ := hp
  refine lv_icmp_eq (tgt := 1188) hx hb dL_law_416 (by decide) (fun c7 => ?_) (fun c7 => ?_)
  · have b8 : x3.toInt = x5.toInt := hw_ieq c7
    refine lv_iinc (v := 6) (lv' := [(3, .int 6), (2, .ref mo), (1, .ref x), (0, .ref b)]) hx hb dL_law_1188 hl (k := 0) rfl (by rfl) (by decide) rfl (fun ls hl => ?_)
    refine lv_goto (tgt := 18) hx hb dL_law_1191 (by decide) ?_
    refine lv_iload_n hx hb dL_law_18 rfl (lv_at hl 0 rfl) ?_
    refine lv_aload_n hx hb dL_law_19 rfl (lv_at hl 3 rfl) ?_
    refine va_slen hx hb hX hbl hbA hS dL_law_20 ?_
    refine lv_bipush (v := 6) hx hb dL_law_21 (by decide) ?_
    refine lv_isub hx hb dL_law_23 ?_
    refine lv_topi (fun x9 e10 => ?_)
    have t11 : x9.toInt = (Int32.ofNat L).toInt - 6 := by rw [e10]; exact hw_sub rfl rfl (by omega) (by omega)
    refine lv_icmp_gt (tgt := 1194) hx hb dL_law_24 (by decide) (fun c12 => ?_) (fun c12 => ?_)
    · have b13 : x9.toInt < 6 := hw_ilt c12
      refine lv_iconst (v := 1) hx hb dL_law_1194 (by decide) ?_
      have hfg := hw_hfg hG0 (by decide) hS.2.2
      refine va_forget hfg ?_
      refine W.widen (k := 600000) (n := 7302250) (by decide) (by decide) ?_
      exact lw_ret hx hb hr hlocks dL_law_1195
    · have b14 : 6 ≤ x9.toInt := hw_inlt c12
      exfalso; omega
  · have b15 : x3.toInt ≠ x5.toInt := hw_ine c7
    exfalso
    first | omega | contradiction | (subst_vars; omega)

set_option maxHeartbeats 40000000 in
set_option maxRecDepth 100000 in
theorem hw_case421 {p : Program} {e : Env} {s : State} {m : MethodId} {below : List Frame} {meth : Method} {c : Code} (l : Launch) {b L : Nat} {xs : Nat → Int32} {D : hw_D} {G : Nat → Nat} {H : Heap} {locs : List Loc} {x mo : Nat} {ls : Array Slot} (hL : L ≤ 6) (hL6 : 6 ≤ L) (hx : p.tables.exec = Jvm.exec) (hb : c.code = code) (hr : meth.sig.returnType = ret) (hml : c.maxLocals = 4) (hown : s.vm.findClass R_law = some m.cls) (hts0 : ∀ w ∈ lw_tbl, w.before #[Value.ref b] s = true) (hts : ∀ w ∈ wsL_law, w.before #[Value.ref b] s = true) (hX : va_X b L xs s s.heap) (hbl : b < s.heap.size) (hlocks : meth.locks = false) (hG0 : G = fun _ => 0) (hK : va_K D.1 vwCl (hw_ty D.2.1) s) (hST : hw_ST D.2.2 G s.heap.size s) (hF : hw_F0 D G s H x mo) (hS : va_S (hw_AW G [1, 2, 3, 4, 5, 6, 7, 8, 9, 10, 11, 12, 13, 14, 15, 16, 17, 18, 19, 20, 21, 22, 23, 24, 25, 26, 27, 28, 29, 30, 31, 32, 40, 42, 44, 45, 46, 48, 49, 50, 51, 53, 55, 58, 59, 67, 68, 69, 70, 71, 72, 73, 74, 75, 76, 77, 78, 79, 80, 81, 82, 83, 84, 101, 102, 103, 104, 105, 106, 107, 108, 109, 127, 128, 129, 132] s.heap.size) s.heap H locs) (hl : lv_has ls 4 [(3, .int 0), (2, .ref mo), (1, .ref x), (0, .ref b)]) : W p l e room_1 s m #[Value.ref b] below meth c H locs 200 8000 (lw_Z below #[Value.ref b] s) (F0 m 421 ls []) := by
  have hH0 : hw_HT D G s.heap := fun a h => absurd (by rw [hG0]) h
  have hbA : ¬ (hw_AW G [1, 2, 3, 4, 5, 6, 7, 8, 9, 10, 11, 12, 13, 14, 15, 16, 17, 18, 19, 20, 21, 22, 23, 24, 25, 26, 27, 28, 29, 30, 31, 32, 40, 42, 44, 45, 46, 48, 49, 50, 51, 53, 55, 58, 59, 67, 68, 69, 70, 71, 72, 73, 74, 75, 76, 77, 78, 79, 80, 81, 82, 83, 84, 101, 102, 103, 104, 105, 106, 107, 108, 109, 127, 128, 129, 132] s.heap.size) b := hw_AWn (k := 0) (by rw [hG0]) (by decide) hbl
  have hLi : (Int32.ofNat L).toInt = (L : Int) := nI_toInt (by omega)
  obtain ⟨G1, rx, rc, rt, rn, fq, rm, fro, fik, fla, fsz, hH, hGe1, wx, wm, gx, gm, Rx, vx, Rc, vc, Rt, vt, Rn, vn, vq, hRK, Rm, vm, vro, hro, vik, hik, vla, vsz, hfs⟩ := hF
  have hHs := hH0
  obtain ⟨la, hla⟩ : ∃ z : Nat → Int32, z = fun _ => -1 := ⟨_, rfl⟩
  obtain ⟨sz9, hsz9⟩ : ∃ z : Nat → Int32, z = fun _ => 0 := ⟨_, rfl⟩
  rw [← hla, ← hsz9] at hRK
  have qq := hRK.q
  have qsz : ∀ j, j < 4 → -1 ≤ (fsz j).toInt ∧ (fsz j).toInt ≤ 24 := fun j hj => by rw [hfs j hj]; decide
  have hro0 : (fro 0).toInt = 0 := by rw [hro]; rfl
  have hro1 : (fro 1).toInt = 0 := by rw [hro]; rfl
  have hro2 : (fro 2).toInt = 0 := by rw [hro]; rfl
  have hla1 : (la (xs 1).toNatClampNeg).toInt = -1 := by rw [hla]; rfl
  have hfs1 : 0 ≤ (xs 1).toInt ∧ (xs 1).toInt ≤ 3 → (fsz (xs 1).toNatClampNeg).toInt = -1 := fun h9 => by rw [hfs _ (hw_i4 h9)]; rfl
  have hla2 : (la (xs 2).toNatClampNeg).toInt = -1 := by rw [hla]; rfl
  have hfs2 : 0 ≤ (xs 2).toInt ∧ (xs 2).toInt ≤ 3 → (fsz (xs 2).toNatClampNeg).toInt = -1 := fun h9 => by rw [hfs _ (hw_i4 h9)]; rfl
  have hla3 : (la (xs 3).toNatClampNeg).toInt = -1 := by rw [hla]; rfl
  have hfs3 : 0 ≤ (xs 3).toInt ∧ (xs 3).toInt ≤ 3 → (fsz (xs 3).toNatClampNeg).toInt = -1 := fun h9 => by rw [hfs _ (hw_i4 h9)]; rfl
  have hik1 : (fik (xs 1).toNatClampNeg).toInt = 0 := by rw [hik]; rfl
  refine lv_aload_n hx hb dL_law_421 rfl (lv_at hl 2 rfl) ?_
  refine lv_aload_n hx hb dL_law_422 rfl (lv_at hl 3 rfl) ?_
  refine lv_iload_n hx hb dL_law_423 rfl (lv_at hl 0 rfl) ?_
  refine lv_iconst (v := 1) hx hb dL_law_424 (by decide) ?_
  refine lv_iadd hx hb dL_law_425 ?_
  refine W.eq (g2 := F0 m 426 ls [.int 1, .ref b, .ref x]) rfl ?_
  refine va_sld hx hb hX hbl hbA hS (hw_in (x := 1) (by decide) (by have h9 : (1 : Int32).toInt = 1 := rfl; omega)) dL_law_426 ?_
  refine W.eq (g2 := F0 m 427 ls [.int (xs 1), .ref x]) rfl ?_
  refine lv_aload_n hx hb dL_law_427 rfl (lv_at hl 3 rfl) ?_
  refine lv_iload_n hx hb dL_law_428 rfl (lv_at hl 0 rfl) ?_
  refine lv_iconst (v := 2) hx hb dL_law_429 (by decide) ?_
  refine lv_iadd hx hb dL_law_430 ?_
  refine W.eq (g2 := F0 m 431 ls [.int 2, .ref b, .int (xs 1), .ref x]) rfl ?_
  refine va_sld hx hb hX hbl hbA hS (hw_in (x := 2) (by decide) (by have h9 : (2 : Int32).toInt = 2 := rfl; omega)) dL_law_431 ?_
  refine W.eq (g2 := F0 m 432 ls [.int (xs 2), .int (xs 1), .ref x]) rfl ?_
  refine lv_aload_n hx hb dL_law_432 rfl (lv_at hl 3 rfl) ?_
  refine lv_iload_n hx hb dL_law_433 rfl (lv_at hl 0 rfl) ?_
  refine lv_iconst (v := 3) hx hb dL_law_434 (by decide) ?_
  refine lv_iadd hx hb dL_law_435 ?_
  refine W.eq (g2 := F0 m 436 ls [.int 3, .ref b, .int (xs 2), .int (xs 1), .ref x]) rfl ?_
  refine va_sld hx hb hX hbl hbA hS (hw_in (x := 3) (by decide) (by have h9 : (3 : Int32).toInt = 3 := rfl; omega)) dL_law_436 ?_
  refine W.eq (g2 := F0 m 437 ls [.int (xs 3), .int (xs 2), .int (xs 1), .ref x]) rfl ?_
  refine hw_cM0 (va_runV (As := [.int (xs 1), .int (xs 2), .int (xs 3)]) (rest := []) ⟨hx, hb, hml, hown, hts⟩ (k_X11_tries l D G1 x (xs 1) (xs 2) (xs 3) _ rx 0 0 0 0 rc 0 0 0 60 gx Rx ⟨by first | decide | omega, by first | decide | omega⟩ Rc ⟨by first | decide | omega, by first | decide | omega⟩ ⟨by first | decide | omega, by first | decide | omega⟩ ⟨by first | decide | omega, by first | decide | omega⟩) (cwV 3 hts gL_law_X11_tries rfl rfl rfl (by decide +kernel) ⟨Nat.le_of_ble_eq_true rfl, Nat.le_of_ble_eq_true rfl⟩) (hw_pV (hw_rc (q := (RX11, TX11, 14)) hK vx rfl) hH hK hST hS (by decide) (hw_hG hGe1) ⟨vx, vc⟩) rfl rfl hl.1 rfl (lv_room (Nat.le_of_ble_eq_true rfl)) dL_law_437 ⟨Nat.le_of_ble_eq_true rfl, Nat.le_of_ble_eq_true rfl⟩) hS (hw_AWsub (by decide) hGe1 hS.1) (fun v H locs hp hz hk hS => ?_)
  have l1 : (0 : Int32).toInt = 0 := rfl
  have l2 : (60 : Int32).toInt = 60 := rfl
  obtain ⟨x3, x4, x5, rfl, hH, v6, v7, q8⟩ := hp
  have hRK := hw_Racks.kept hRK (fun q9 h9 l9 => hk q9 l9 (hw_AWn h9 (by decide) l9))
  have vt := va_at.kept vt (hk _ (hw_lt vt) (hw_AWn (hw_RX_1 Rx) (by decide) (hw_lt vt)))
  have vq := va_at.kept vq (hk _ (hw_lt vq) (hw_AWn (hw_RX_13 Rx) (by decide) (hw_lt vq)))
  have vm := va_at.kept vm (hk _ (hw_lt vm) (hw_AWn gm (by decide) (hw_lt vm)))
  have vro := va_at.kept vro (hk _ (hw_lt vro) (hw_AWn (hw_RM_0 Rm) (by decide) (hw_lt vro)))
  have vik := va_at.kept vik (hk _ (hw_lt vik) (hw_AWn (hw_RM_2 Rm) (by decide) (hw_lt vik)))
  have vla := va_at.kept vla (hk _ (hw_lt vla) (hw_AWn (hw_RM_41 Rm) (by decide) (hw_lt vla)))
  have vsz := va_at.kept vsz (hk _ (hw_lt vsz) (hw_AWn (hw_RM_42 Rm) (by decide) (hw_lt vsz)))
  refine lv_aload_n hx hb dL_law_440 rfl (lv_at hl 1 rfl) ?_
  refine lv_aload_n hx hb dL_law_441 rfl (lv_at hl 3 rfl) ?_
  refine lv_iload_n hx hb dL_law_442 rfl (lv_at hl 0 rfl) ?_
  refine lv_iconst (v := 1) hx hb dL_law_443 (by decide) ?_
  refine lv_iadd hx hb dL_law_444 ?_
  refine W.eq (g2 := F0 m 445 ls [.int 1, .ref b, .ref mo, .int x3]) rfl ?_
  refine va_sld hx hb hX hbl hbA hS (hw_in (x := 1) (by decide) (by have h9 : (1 : Int32).toInt = 1 := rfl; omega)) dL_law_445 ?_
  refine W.eq (g2 := F0 m 446 ls [.int (xs 1), .ref mo, .int x3]) rfl ?_
  refine lv_aload_n hx hb dL_law_446 rfl (lv_at hl 3 rfl) ?_
  refine lv_iload_n hx hb dL_law_447 rfl (lv_at hl 0 rfl) ?_
  refine lv_iconst (v := 2) hx hb dL_law_448 (by decide) ?_
  refine lv_iadd hx hb dL_law_449 ?_
  refine W.eq (g2 := F0 m 450 ls [.int 2, .ref b, .int (xs 1), .ref mo, .int x3]) rfl ?_
  refine va_sld hx hb hX hbl hbA hS (hw_in (x := 2) (by decide) (by have h9 : (2 : Int32).toInt = 2 := rfl; omega)) dL_law_450 ?_
  refine W.eq (g2 := F0 m 451 ls [.int (xs 2), .int (xs 1), .ref mo, .int x3]) rfl ?_
  refine lv_aload_n hx hb dL_law_451 rfl (lv_at hl 3 rfl) ?_
  refine lv_iload_n hx hb dL_law_452 rfl (lv_at hl 0 rfl) ?_
  refine lv_iconst (v := 3) hx hb dL_law_453 (by decide) ?_
  refine lv_iadd hx hb dL_law_454 ?_
  refine W.eq (g2 := F0 m 455 ls [.int 3, .ref b, .int (xs 2), .int (xs 1), .ref mo, .int x3]) rfl ?_
  refine va_sld hx hb hX hbl hbA hS (hw_in (x := 3) (by decide) (by have h9 : (3 : Int32).toInt = 3 := rfl; omega)) dL_law_455 ?_
  refine W.eq (g2 := F0 m 456 ls [.int (xs 3), .int (xs 2), .int (xs 1), .ref mo, .int x3]) rfl ?_
  refine hw_cM0 (va_runV (As := [.int (xs 1), .int (xs 2), .int (xs 3)]) (rest := [.int x3]) ⟨hx, hb, hml, hown, hts⟩ (k_X12_tries l D G1 mo (xs 1) (xs 2) (xs 3) _ rm 0 0 0 0 60 0 0 0 0 0 0 0 0 0 gm Rm ⟨by first | decide | omega, by first | decide | omega⟩ ⟨by first | decide | omega, by first | decide | omega⟩ ⟨by first | decide | omega, by first | decide | omega⟩ ⟨by first | decide | omega, by first | decide | omega⟩ ⟨by first | decide | omega, by first | decide | omega⟩ ⟨by first | decide | omega, by first | decide | omega⟩ ⟨by first | decide | omega, by first | decide | omega⟩ ⟨by first | decide | omega, by first | decide | omega⟩ ⟨by first | decide | omega, by first | decide | omega⟩ ⟨by first | decide | omega, by first | decide | omega⟩ ⟨by first | decide | omega, by first | decide | omega⟩ ⟨by first | decide | omega, by first | decide | omega⟩) (cwV 3 hts gL_law_X12_tries rfl rfl rfl (by decide +kernel) ⟨Nat.le_of_ble_eq_true rfl, Nat.le_of_ble_eq_true rfl⟩) (hw_pV (hw_rc (q := (RX12, TX12, 45)) hK vm rfl) hH hK hST hS (by decide) (hw_hG hGe1) vm) rfl rfl hl.1 rfl (lv_room (Nat.le_of_ble_eq_true rfl)) dL_law_456 ⟨Nat.le_of_ble_eq_true rfl, Nat.le_of_ble_eq_true rfl⟩) hS (hw_AWsub (by decide) hGe1 hS.1) (fun v H locs hp hz hk hS => ?_)
  obtain ⟨x9, x10, rfl, hH, v11, g12, q13⟩ := hp
  have hRK := hw_Racks.kept hRK (fun q9 h9 l9 => hk q9 l9 (hw_AWn h9 (by decide) l9))
  have v6 := va_at.kept v6 (hk _ (hw_lt v6) (hw_AWn gx (by decide) (hw_lt v6)))
  have v7 := va_at.kept v7 (hk _ (hw_lt v7) (hw_AWn (hw_RX_0 Rx) (by decide) (hw_lt v7)))
  have vt := va_at.kept vt (hk _ (hw_lt vt) (hw_AWn (hw_RX_1 Rx) (by decide) (hw_lt vt)))
  have vq := va_at.kept vq (hk _ (hw_lt vq) (hw_AWn (hw_RX_13 Rx) (by decide) (hw_lt vq)))
  have vik := va_at.kept vik (hk _ (hw_lt vik) (hw_AWn (hw_RM_2 Rm) (by decide) (hw_lt vik)))
  have vla := va_at.kept vla (hk _ (hw_lt vla) (hw_AWn (hw_RM_41 Rm) (by decide) (hw_lt vla)))
  have vsz := va_at.kept vsz (hk _ (hw_lt vsz) (hw_AWn (hw_RM_42 Rm) (by decide) (hw_lt vsz)))
  refine lv_icmp_eq (tgt := 1188) hx hb dL_law_459 (by decide) (fun c14 => ?_) (fun c14 => ?_)
  · have b15 : x3.toInt = x9.toInt := hw_ieq c14
    refine lv_iinc (v := 6) (lv' := [(3, .int 6), (2, .ref mo), (1, .ref x), (0, .ref b)]) hx hb dL_law_1188 hl (k := 0) rfl (by rfl) (by decide) rfl (fun ls hl => ?_)
    refine lv_goto (tgt := 18) hx hb dL_law_1191 (by decide) ?_
    refine lv_iload_n hx hb dL_law_18 rfl (lv_at hl 0 rfl) ?_
    refine lv_aload_n hx hb dL_law_19 rfl (lv_at hl 3 rfl) ?_
    refine va_slen hx hb hX hbl hbA hS dL_law_20 ?_
    refine lv_bipush (v := 6) hx hb dL_law_21 (by decide) ?_
    refine lv_isub hx hb dL_law_23 ?_
    refine lv_topi (fun x16 e17 => ?_)
    have t18 : x16.toInt = (Int32.ofNat L).toInt - 6 := by rw [e17]; exact hw_sub rfl rfl (by omega) (by omega)
    refine lv_icmp_gt (tgt := 1194) hx hb dL_law_24 (by decide) (fun c19 => ?_) (fun c19 => ?_)
    · have b20 : x16.toInt < 6 := hw_ilt c19
      refine lv_iconst (v := 1) hx hb dL_law_1194 (by decide) ?_
      have hfg := hw_hfg hG0 (by decide) hS.2.2
      refine va_forget hfg ?_
      refine W.widen (k := 600000) (n := 7302250) (by decide) (by decide) ?_
      exact lw_ret hx hb hr hlocks dL_law_1195
    · have b21 : 6 ≤ x16.toInt := hw_inlt c19
      exfalso; omega
  · have b22 : x3.toInt ≠ x9.toInt := hw_ine c14
    exfalso
    first | omega | contradiction | (subst_vars; omega)

set_option maxHeartbeats 40000000 in
set_option maxRecDepth 100000 in
theorem hw_case464 {p : Program} {e : Env} {s : State} {m : MethodId} {below : List Frame} {meth : Method} {c : Code} (l : Launch) {b L : Nat} {xs : Nat → Int32} {D : hw_D} {G : Nat → Nat} {H : Heap} {locs : List Loc} {x mo : Nat} {ls : Array Slot} (hL : L ≤ 6) (hL6 : 6 ≤ L) (hx : p.tables.exec = Jvm.exec) (hb : c.code = code) (hr : meth.sig.returnType = ret) (hml : c.maxLocals = 4) (hown : s.vm.findClass R_law = some m.cls) (hts0 : ∀ w ∈ lw_tbl, w.before #[Value.ref b] s = true) (hts : ∀ w ∈ wsL_law, w.before #[Value.ref b] s = true) (hX : va_X b L xs s s.heap) (hbl : b < s.heap.size) (hlocks : meth.locks = false) (hG0 : G = fun _ => 0) (hK : va_K D.1 vwCl (hw_ty D.2.1) s) (hST : hw_ST D.2.2 G s.heap.size s) (hF : hw_F0 D G s H x mo) (hS : va_S (hw_AW G [1, 2, 3, 4, 5, 6, 7, 8, 9, 10, 11, 12, 13, 14, 15, 16, 17, 18, 19, 20, 21, 22, 23, 24, 25, 26, 27, 28, 29, 30, 31, 32, 40, 42, 44, 45, 46, 48, 49, 50, 51, 53, 55, 58, 59, 67, 68, 69, 70, 71, 72, 73, 74, 75, 76, 77, 78, 79, 80, 81, 82, 83, 84, 101, 102, 103, 104, 105, 106, 107, 108, 109, 127, 128, 129, 132] s.heap.size) s.heap H locs) (hl : lv_has ls 4 [(3, .int 0), (2, .ref mo), (1, .ref x), (0, .ref b)]) : W p l e room_1 s m #[Value.ref b] below meth c H locs 200 8000 (lw_Z below #[Value.ref b] s) (F0 m 464 ls []) := by
  have hH0 : hw_HT D G s.heap := fun a h => absurd (by rw [hG0]) h
  have hbA : ¬ (hw_AW G [1, 2, 3, 4, 5, 6, 7, 8, 9, 10, 11, 12, 13, 14, 15, 16, 17, 18, 19, 20, 21, 22, 23, 24, 25, 26, 27, 28, 29, 30, 31, 32, 40, 42, 44, 45, 46, 48, 49, 50, 51, 53, 55, 58, 59, 67, 68, 69, 70, 71, 72, 73, 74, 75, 76, 77, 78, 79, 80, 81, 82, 83, 84, 101, 102, 103, 104, 105, 106, 107, 108, 109, 127, 128, 129, 132] s.heap.size) b := hw_AWn (k := 0) (by rw [hG0]) (by decide) hbl
  have hLi : (Int32.ofNat L).toInt = (L : Int) := nI_toInt (by omega)
  obtain ⟨G1, rx, rc, rt, rn, fq, rm, fro, fik, fla, fsz, hH, hGe1, wx, wm, gx, gm, Rx, vx, Rc, vc, Rt, vt, Rn, vn, vq, hRK, Rm, vm, vro, hro, vik, hik, vla, vsz, hfs⟩ := hF
  have hHs := hH0
  obtain ⟨la, hla⟩ : ∃ z : Nat → Int32, z = fun _ => -1 := ⟨_, rfl⟩
  obtain ⟨sz9, hsz9⟩ : ∃ z : Nat → Int32, z = fun _ => 0 := ⟨_, rfl⟩
  rw [← hla, ← hsz9] at hRK
  have qq := hRK.q
  have qsz : ∀ j, j < 4 → -1 ≤ (fsz j).toInt ∧ (fsz j).toInt ≤ 24 := fun j hj => by rw [hfs j hj]; decide
  have hro0 : (fro 0).toInt = 0 := by rw [hro]; rfl
  have hro1 : (fro 1).toInt = 0 := by rw [hro]; rfl
  have hro2 : (fro 2).toInt = 0 := by rw [hro]; rfl
  have hla1 : (la (xs 1).toNatClampNeg).toInt = -1 := by rw [hla]; rfl
  have hfs1 : 0 ≤ (xs 1).toInt ∧ (xs 1).toInt ≤ 3 → (fsz (xs 1).toNatClampNeg).toInt = -1 := fun h9 => by rw [hfs _ (hw_i4 h9)]; rfl
  have hla2 : (la (xs 2).toNatClampNeg).toInt = -1 := by rw [hla]; rfl
  have hfs2 : 0 ≤ (xs 2).toInt ∧ (xs 2).toInt ≤ 3 → (fsz (xs 2).toNatClampNeg).toInt = -1 := fun h9 => by rw [hfs _ (hw_i4 h9)]; rfl
  have hla3 : (la (xs 3).toNatClampNeg).toInt = -1 := by rw [hla]; rfl
  have hfs3 : 0 ≤ (xs 3).toInt ∧ (xs 3).toInt ≤ 3 → (fsz (xs 3).toNatClampNeg).toInt = -1 := fun h9 => by rw [hfs _ (hw_i4 h9)]; rfl
  have hik1 : (fik (xs 1).toNatClampNeg).toInt = 0 := by rw [hik]; rfl
  refine lv_aload_n hx hb dL_law_464 rfl (lv_at hl 2 rfl) ?_
  refine lv_aload_n hx hb dL_law_465 rfl (lv_at hl 3 rfl) ?_
  refine lv_iload_n hx hb dL_law_466 rfl (lv_at hl 0 rfl) ?_
  refine lv_iconst (v := 1) hx hb dL_law_467 (by decide) ?_
  refine lv_iadd hx hb dL_law_468 ?_
  refine W.eq (g2 := F0 m 469 ls [.int 1, .ref b, .ref x]) rfl ?_
  refine va_sld hx hb hX hbl hbA hS (hw_in (x := 1) (by decide) (by have h9 : (1 : Int32).toInt = 1 := rfl; omega)) dL_law_469 ?_
  refine W.eq (g2 := F0 m 470 ls [.int (xs 1), .ref x]) rfl ?_
  refine hw_cM0 (va_runV (As := [.int (xs 1)]) (rest := []) ⟨hx, hb, hml, hown, hts⟩ (k_X11_shut l D G1 x (xs 1) _ rx 0 0 0 0 rc 0 0 0 60 gx Rx ⟨by first | decide | omega, by first | decide | omega⟩ Rc ⟨by first | decide | omega, by first | decide | omega⟩ ⟨by first | decide | omega, by first | decide | omega⟩ ⟨by first | decide | omega, by first | decide | omega⟩) (cwV 1 hts gL_law_X11_shut rfl rfl rfl (by decide +kernel) ⟨Nat.le_of_ble_eq_true rfl, Nat.le_of_ble_eq_true rfl⟩) (hw_pV (hw_rc (q := (RX11, TX11, 14)) hK vx rfl) hH hK hST hS (by decide) (hw_hG hGe1) ⟨vx, vc⟩) rfl rfl hl.1 rfl (lv_room (Nat.le_of_ble_eq_true rfl)) dL_law_470 ⟨Nat.le_of_ble_eq_true rfl, Nat.le_of_ble_eq_true rfl⟩) hS (hw_AWsub (by decide) hGe1 hS.1) (fun v H locs hp hz hk hS => ?_)
  have l1 : (0 : Int32).toInt = 0 := rfl
  have l2 : (60 : Int32).toInt = 60 := rfl
  obtain ⟨x3, x4, x5, rfl, hH, v6, v7, q8⟩ := hp
  have hRK := hw_Racks.kept hRK (fun q9 h9 l9 => hk q9 l9 (hw_AWn h9 (by decide) l9))
  have vt := va_at.kept vt (hk _ (hw_lt vt) (hw_AWn (hw_RX_1 Rx) (by decide) (hw_lt vt)))
  have vq := va_at.kept vq (hk _ (hw_lt vq) (hw_AWn (hw_RX_13 Rx) (by decide) (hw_lt vq)))
  have vm := va_at.kept vm (hk _ (hw_lt vm) (hw_AWn gm (by decide) (hw_lt vm)))
  have vro := va_at.kept vro (hk _ (hw_lt vro) (hw_AWn (hw_RM_0 Rm) (by decide) (hw_lt vro)))
  have vik := va_at.kept vik (hk _ (hw_lt vik) (hw_AWn (hw_RM_2 Rm) (by decide) (hw_lt vik)))
  have vla := va_at.kept vla (hk _ (hw_lt vla) (hw_AWn (hw_RM_41 Rm) (by decide) (hw_lt vla)))
  have vsz := va_at.kept vsz (hk _ (hw_lt vsz) (hw_AWn (hw_RM_42 Rm) (by decide) (hw_lt vsz)))
  refine lv_aload_n hx hb dL_law_473 rfl (lv_at hl 1 rfl) ?_
  refine lv_aload_n hx hb dL_law_474 rfl (lv_at hl 3 rfl) ?_
  refine lv_iload_n hx hb dL_law_475 rfl (lv_at hl 0 rfl) ?_
  refine lv_iconst (v := 1) hx hb dL_law_476 (by decide) ?_
  refine lv_iadd hx hb dL_law_477 ?_
  refine W.eq (g2 := F0 m 478 ls [.int 1, .ref b, .ref mo, .int x3]) rfl ?_
  refine va_sld hx hb hX hbl hbA hS (hw_in (x := 1) (by decide) (by have h9 : (1 : Int32).toInt = 1 := rfl; omega)) dL_law_478 ?_
  refine W.eq (g2 := F0 m 479 ls [.int (xs 1), .ref mo, .int x3]) rfl ?_
  refine hw_cM0 (va_runV (As := [.int (xs 1)]) (rest := [.int x3]) ⟨hx, hb, hml, hown, hts⟩ (k_X12_shut l D G1 mo (xs 1) _ rm 0 0 0 0 60 0 0 0 0 0 0 0 0 0 gm Rm ⟨by first | decide | omega, by first | decide | omega⟩ ⟨by first | decide | omega, by first | decide | omega⟩ ⟨by first | decide | omega, by first | decide | omega⟩ ⟨by first | decide | omega, by first | decide | omega⟩ ⟨by first | decide | omega, by first | decide | omega⟩ ⟨by first | decide | omega, by first | decide | omega⟩ ⟨by first | decide | omega, by first | decide | omega⟩ ⟨by first | decide | omega, by first | decide | omega⟩ ⟨by first | decide | omega, by first | decide | omega⟩ ⟨by first | decide | omega, by first | decide | omega⟩ ⟨by first | decide | omega, by first | decide | omega⟩ ⟨by first | decide | omega, by first | decide | omega⟩) (cwV 1 hts gL_law_X12_shut rfl rfl rfl (by decide +kernel) ⟨Nat.le_of_ble_eq_true rfl, Nat.le_of_ble_eq_true rfl⟩) (hw_pV (hw_rc (q := (RX12, TX12, 45)) hK vm rfl) hH hK hST hS (by decide) (hw_hG hGe1) vm) rfl rfl hl.1 rfl (lv_room (Nat.le_of_ble_eq_true rfl)) dL_law_479 ⟨Nat.le_of_ble_eq_true rfl, Nat.le_of_ble_eq_true rfl⟩) hS (hw_AWsub (by decide) hGe1 hS.1) (fun v H locs hp hz hk hS => ?_)
  obtain ⟨x9, x10, rfl, hH, v11, g12, q13⟩ := hp
  have hRK := hw_Racks.kept hRK (fun q9 h9 l9 => hk q9 l9 (hw_AWn h9 (by decide) l9))
  have v6 := va_at.kept v6 (hk _ (hw_lt v6) (hw_AWn gx (by decide) (hw_lt v6)))
  have v7 := va_at.kept v7 (hk _ (hw_lt v7) (hw_AWn (hw_RX_0 Rx) (by decide) (hw_lt v7)))
  have vt := va_at.kept vt (hk _ (hw_lt vt) (hw_AWn (hw_RX_1 Rx) (by decide) (hw_lt vt)))
  have vq := va_at.kept vq (hk _ (hw_lt vq) (hw_AWn (hw_RX_13 Rx) (by decide) (hw_lt vq)))
  have vik := va_at.kept vik (hk _ (hw_lt vik) (hw_AWn (hw_RM_2 Rm) (by decide) (hw_lt vik)))
  have vla := va_at.kept vla (hk _ (hw_lt vla) (hw_AWn (hw_RM_41 Rm) (by decide) (hw_lt vla)))
  have vsz := va_at.kept vsz (hk _ (hw_lt vsz) (hw_AWn (hw_RM_42 Rm) (by decide) (hw_lt vsz)))
  refine lv_icmp_eq (tgt := 1188) hx hb dL_law_482 (by decide) (fun c14 => ?_) (fun c14 => ?_)
  · have b15 : x3.toInt = x9.toInt := hw_ieq c14
    refine lv_iinc (v := 6) (lv' := [(3, .int 6), (2, .ref mo), (1, .ref x), (0, .ref b)]) hx hb dL_law_1188 hl (k := 0) rfl (by rfl) (by decide) rfl (fun ls hl => ?_)
    refine lv_goto (tgt := 18) hx hb dL_law_1191 (by decide) ?_
    refine lv_iload_n hx hb dL_law_18 rfl (lv_at hl 0 rfl) ?_
    refine lv_aload_n hx hb dL_law_19 rfl (lv_at hl 3 rfl) ?_
    refine va_slen hx hb hX hbl hbA hS dL_law_20 ?_
    refine lv_bipush (v := 6) hx hb dL_law_21 (by decide) ?_
    refine lv_isub hx hb dL_law_23 ?_
    refine lv_topi (fun x16 e17 => ?_)
    have t18 : x16.toInt = (Int32.ofNat L).toInt - 6 := by rw [e17]; exact hw_sub rfl rfl (by omega) (by omega)
    refine lv_icmp_gt (tgt := 1194) hx hb dL_law_24 (by decide) (fun c19 => ?_) (fun c19 => ?_)
    · have b20 : x16.toInt < 6 := hw_ilt c19
      refine lv_iconst (v := 1) hx hb dL_law_1194 (by decide) ?_
      have hfg := hw_hfg hG0 (by decide) hS.2.2
      refine va_forget hfg ?_
      refine W.widen (k := 600000) (n := 7302250) (by decide) (by decide) ?_
      exact lw_ret hx hb hr hlocks dL_law_1195
    · have b21 : 6 ≤ x16.toInt := hw_inlt c19
      exfalso; omega
  · have b22 : x3.toInt ≠ x9.toInt := hw_ine c14
    exfalso
    first | omega | contradiction | (subst_vars; omega)

set_option maxHeartbeats 40000000 in
set_option maxRecDepth 100000 in
theorem hw_case487 {p : Program} {e : Env} {s : State} {m : MethodId} {below : List Frame} {meth : Method} {c : Code} (l : Launch) {b L : Nat} {xs : Nat → Int32} {D : hw_D} {G : Nat → Nat} {H : Heap} {locs : List Loc} {x mo : Nat} {ls : Array Slot} (hL : L ≤ 6) (hL6 : 6 ≤ L) (hx : p.tables.exec = Jvm.exec) (hb : c.code = code) (hr : meth.sig.returnType = ret) (hml : c.maxLocals = 4) (hown : s.vm.findClass R_law = some m.cls) (hts0 : ∀ w ∈ lw_tbl, w.before #[Value.ref b] s = true) (hts : ∀ w ∈ wsL_law, w.before #[Value.ref b] s = true) (hX : va_X b L xs s s.heap) (hbl : b < s.heap.size) (hlocks : meth.locks = false) (hG0 : G = fun _ => 0) (hK : va_K D.1 vwCl (hw_ty D.2.1) s) (hST : hw_ST D.2.2 G s.heap.size s) (hF : hw_F0 D G s H x mo) (hS : va_S (hw_AW G [1, 2, 3, 4, 5, 6, 7, 8, 9, 10, 11, 12, 13, 14, 15, 16, 17, 18, 19, 20, 21, 22, 23, 24, 25, 26, 27, 28, 29, 30, 31, 32, 40, 42, 44, 45, 46, 48, 49, 50, 51, 53, 55, 58, 59, 67, 68, 69, 70, 71, 72, 73, 74, 75, 76, 77, 78, 79, 80, 81, 82, 83, 84, 101, 102, 103, 104, 105, 106, 107, 108, 109, 127, 128, 129, 132] s.heap.size) s.heap H locs) (hl : lv_has ls 4 [(3, .int 0), (2, .ref mo), (1, .ref x), (0, .ref b)]) : W p l e room_1 s m #[Value.ref b] below meth c H locs 200 8000 (lw_Z below #[Value.ref b] s) (F0 m 487 ls []) := by
  have hH0 : hw_HT D G s.heap := fun a h => absurd (by rw [hG0]) h
  have hbA : ¬ (hw_AW G [1, 2, 3, 4, 5, 6, 7, 8, 9, 10, 11, 12, 13, 14, 15, 16, 17, 18, 19, 20, 21, 22, 23, 24, 25, 26, 27, 28, 29, 30, 31, 32, 40, 42, 44, 45, 46, 48, 49, 50, 51, 53, 55, 58, 59, 67, 68, 69, 70, 71, 72, 73, 74, 75, 76, 77, 78, 79, 80, 81, 82, 83, 84, 101, 102, 103, 104, 105, 106, 107, 108, 109, 127, 128, 129, 132] s.heap.size) b := hw_AWn (k := 0) (by rw [hG0]) (by decide) hbl
  have hLi : (Int32.ofNat L).toInt = (L : Int) := nI_toInt (by omega)
  obtain ⟨G1, rx, rc, rt, rn, fq, rm, fro, fik, fla, fsz, hH, hGe1, wx, wm, gx, gm, Rx, vx, Rc, vc, Rt, vt, Rn, vn, vq, hRK, Rm, vm, vro, hro, vik, hik, vla, vsz, hfs⟩ := hF
  have hHs := hH0
  obtain ⟨la, hla⟩ : ∃ z : Nat → Int32, z = fun _ => -1 := ⟨_, rfl⟩
  obtain ⟨sz9, hsz9⟩ : ∃ z : Nat → Int32, z = fun _ => 0 := ⟨_, rfl⟩
  rw [← hla, ← hsz9] at hRK
  have qq := hRK.q
  have qsz : ∀ j, j < 4 → -1 ≤ (fsz j).toInt ∧ (fsz j).toInt ≤ 24 := fun j hj => by rw [hfs j hj]; decide
  have hro0 : (fro 0).toInt = 0 := by rw [hro]; rfl
  have hro1 : (fro 1).toInt = 0 := by rw [hro]; rfl
  have hro2 : (fro 2).toInt = 0 := by rw [hro]; rfl
  have hla1 : (la (xs 1).toNatClampNeg).toInt = -1 := by rw [hla]; rfl
  have hfs1 : 0 ≤ (xs 1).toInt ∧ (xs 1).toInt ≤ 3 → (fsz (xs 1).toNatClampNeg).toInt = -1 := fun h9 => by rw [hfs _ (hw_i4 h9)]; rfl
  have hla2 : (la (xs 2).toNatClampNeg).toInt = -1 := by rw [hla]; rfl
  have hfs2 : 0 ≤ (xs 2).toInt ∧ (xs 2).toInt ≤ 3 → (fsz (xs 2).toNatClampNeg).toInt = -1 := fun h9 => by rw [hfs _ (hw_i4 h9)]; rfl
  have hla3 : (la (xs 3).toNatClampNeg).toInt = -1 := by rw [hla]; rfl
  have hfs3 : 0 ≤ (xs 3).toInt ∧ (xs 3).toInt ≤ 3 → (fsz (xs 3).toNatClampNeg).toInt = -1 := fun h9 => by rw [hfs _ (hw_i4 h9)]; rfl
  have hik1 : (fik (xs 1).toNatClampNeg).toInt = 0 := by rw [hik]; rfl
  refine lv_aload_n hx hb dL_law_487 rfl (lv_at hl 2 rfl) ?_
  refine lv_aload_n hx hb dL_law_488 rfl (lv_at hl 3 rfl) ?_
  refine lv_iload_n hx hb dL_law_489 rfl (lv_at hl 0 rfl) ?_
  refine lv_iconst (v := 1) hx hb dL_law_490 (by decide) ?_
  refine lv_iadd hx hb dL_law_491 ?_
  refine W.eq (g2 := F0 m 492 ls [.int 1, .ref b, .ref x]) rfl ?_
  refine va_sld hx hb hX hbl hbA hS (hw_in (x := 1) (by decide) (by have h9 : (1 : Int32).toInt = 1 := rfl; omega)) dL_law_492 ?_
  refine W.eq (g2 := F0 m 493 ls [.int (xs 1), .ref x]) rfl ?_
  refine hw_cM0 (va_runV (As := [.int (xs 1)]) (rest := []) ⟨hx, hb, hml, hown, hts⟩ (k_X11_mend l D G1 x (xs 1) _ rx 0 0 0 0 rc 0 0 0 60 gx Rx ⟨by first | decide | omega, by first | decide | omega⟩ Rc ⟨by first | decide | omega, by first | decide | omega⟩ ⟨by first | decide | omega, by first | decide | omega⟩ ⟨by first | decide | omega, by first | decide | omega⟩) (cwV 1 hts gL_law_X11_mend rfl rfl rfl (by decide +kernel) ⟨Nat.le_of_ble_eq_true rfl, Nat.le_of_ble_eq_true rfl⟩) (hw_pV (hw_rc (q := (RX11, TX11, 14)) hK vx rfl) hH hK hST hS (by decide) (hw_hG hGe1) ⟨vx, vc⟩) rfl rfl hl.1 rfl (lv_room (Nat.le_of_ble_eq_true rfl)) dL_law_493 ⟨Nat.le_of_ble_eq_true rfl, Nat.le_of_ble_eq_true rfl⟩) hS (hw_AWsub (by decide) hGe1 hS.1) (fun v H locs hp hz hk hS => ?_)
  have l1 : (0 : Int32).toInt = 0 := rfl
  have l2 : (60 : Int32).toInt = 60 := rfl
  obtain ⟨x3, x4, x5, rfl, hH, v6, v7, q8⟩ := hp
  have hRK := hw_Racks.kept hRK (fun q9 h9 l9 => hk q9 l9 (hw_AWn h9 (by decide) l9))
  have vt := va_at.kept vt (hk _ (hw_lt vt) (hw_AWn (hw_RX_1 Rx) (by decide) (hw_lt vt)))
  have vq := va_at.kept vq (hk _ (hw_lt vq) (hw_AWn (hw_RX_13 Rx) (by decide) (hw_lt vq)))
  have vm := va_at.kept vm (hk _ (hw_lt vm) (hw_AWn gm (by decide) (hw_lt vm)))
  have vro := va_at.kept vro (hk _ (hw_lt vro) (hw_AWn (hw_RM_0 Rm) (by decide) (hw_lt vro)))
  have vik := va_at.kept vik (hk _ (hw_lt vik) (hw_AWn (hw_RM_2 Rm) (by decide) (hw_lt vik)))
  have vla := va_at.kept vla (hk _ (hw_lt vla) (hw_AWn (hw_RM_41 Rm) (by decide) (hw_lt vla)))
  have vsz := va_at.kept vsz (hk _ (hw_lt vsz) (hw_AWn (hw_RM_42 Rm) (by decide) (hw_lt vsz)))
  refine lv_aload_n hx hb dL_law_496 rfl (lv_at hl 1 rfl) ?_
  refine lv_aload_n hx hb dL_law_497 rfl (lv_at hl 3 rfl) ?_
  refine lv_iload_n hx hb dL_law_498 rfl (lv_at hl 0 rfl) ?_
  refine lv_iconst (v := 1) hx hb dL_law_499 (by decide) ?_
  refine lv_iadd hx hb dL_law_500 ?_
  refine W.eq (g2 := F0 m 501 ls [.int 1, .ref b, .ref mo, .int x3]) rfl ?_
  refine va_sld hx hb hX hbl hbA hS (hw_in (x := 1) (by decide) (by have h9 : (1 : Int32).toInt = 1 := rfl; omega)) dL_law_501 ?_
  refine W.eq (g2 := F0 m 502 ls [.int (xs 1), .ref mo, .int x3]) rfl ?_
  refine hw_cM0 (va_runV (As := [.int (xs 1)]) (rest := [.int x3]) ⟨hx, hb, hml, hown, hts⟩ (k_X12_mend l D G1 mo (xs 1) _ rm 0 0 0 0 60 0 0 0 0 0 0 0 0 0 gm Rm ⟨by first | decide | omega, by first | decide | omega⟩ ⟨by first | decide | omega, by first | decide | omega⟩ ⟨by first | decide | omega, by first | decide | omega⟩ ⟨by first | decide | omega, by first | decide | omega⟩ ⟨by first | decide | omega, by first | decide | omega⟩ ⟨by first | decide | omega, by first | decide | omega⟩ ⟨by first | decide | omega, by first | decide | omega⟩ ⟨by first | decide | omega, by first | decide | omega⟩ ⟨by first | decide | omega, by first | decide | omega⟩ ⟨by first | decide | omega, by first | decide | omega⟩ ⟨by first | decide | omega, by first | decide | omega⟩ ⟨by first | decide | omega, by first | decide | omega⟩) (cwV 1 hts gL_law_X12_mend rfl rfl rfl (by decide +kernel) ⟨Nat.le_of_ble_eq_true rfl, Nat.le_of_ble_eq_true rfl⟩) (hw_pV (hw_rc (q := (RX12, TX12, 45)) hK vm rfl) hH hK hST hS (by decide) (hw_hG hGe1) vm) rfl rfl hl.1 rfl (lv_room (Nat.le_of_ble_eq_true rfl)) dL_law_502 ⟨Nat.le_of_ble_eq_true rfl, Nat.le_of_ble_eq_true rfl⟩) hS (hw_AWsub (by decide) hGe1 hS.1) (fun v H locs hp hz hk hS => ?_)
  obtain ⟨x9, x10, rfl, hH, v11, g12, q13⟩ := hp
  have hRK := hw_Racks.kept hRK (fun q9 h9 l9 => hk q9 l9 (hw_AWn h9 (by decide) l9))
  have v6 := va_at.kept v6 (hk _ (hw_lt v6) (hw_AWn gx (by decide) (hw_lt v6)))
  have v7 := va_at.kept v7 (hk _ (hw_lt v7) (hw_AWn (hw_RX_0 Rx) (by decide) (hw_lt v7)))
  have vt := va_at.kept vt (hk _ (hw_lt vt) (hw_AWn (hw_RX_1 Rx) (by decide) (hw_lt vt)))
  have vq := va_at.kept vq (hk _ (hw_lt vq) (hw_AWn (hw_RX_13 Rx) (by decide) (hw_lt vq)))
  have vik := va_at.kept vik (hk _ (hw_lt vik) (hw_AWn (hw_RM_2 Rm) (by decide) (hw_lt vik)))
  have vla := va_at.kept vla (hk _ (hw_lt vla) (hw_AWn (hw_RM_41 Rm) (by decide) (hw_lt vla)))
  have vsz := va_at.kept vsz (hk _ (hw_lt vsz) (hw_AWn (hw_RM_42 Rm) (by decide) (hw_lt vsz)))
  refine lv_icmp_eq (tgt := 1188) hx hb dL_law_505 (by decide) (fun c14 => ?_) (fun c14 => ?_)
  · have b15 : x3.toInt = x9.toInt := hw_ieq c14
    refine lv_iinc (v := 6) (lv' := [(3, .int 6), (2, .ref mo), (1, .ref x), (0, .ref b)]) hx hb dL_law_1188 hl (k := 0) rfl (by rfl) (by decide) rfl (fun ls hl => ?_)
    refine lv_goto (tgt := 18) hx hb dL_law_1191 (by decide) ?_
    refine lv_iload_n hx hb dL_law_18 rfl (lv_at hl 0 rfl) ?_
    refine lv_aload_n hx hb dL_law_19 rfl (lv_at hl 3 rfl) ?_
    refine va_slen hx hb hX hbl hbA hS dL_law_20 ?_
    refine lv_bipush (v := 6) hx hb dL_law_21 (by decide) ?_
    refine lv_isub hx hb dL_law_23 ?_
    refine lv_topi (fun x16 e17 => ?_)
    have t18 : x16.toInt = (Int32.ofNat L).toInt - 6 := by rw [e17]; exact hw_sub rfl rfl (by omega) (by omega)
    refine lv_icmp_gt (tgt := 1194) hx hb dL_law_24 (by decide) (fun c19 => ?_) (fun c19 => ?_)
    · have b20 : x16.toInt < 6 := hw_ilt c19
      refine lv_iconst (v := 1) hx hb dL_law_1194 (by decide) ?_
      have hfg := hw_hfg hG0 (by decide) hS.2.2
      refine va_forget hfg ?_
      refine W.widen (k := 600000) (n := 7302250) (by decide) (by decide) ?_
      exact lw_ret hx hb hr hlocks dL_law_1195
    · have b21 : 6 ≤ x16.toInt := hw_inlt c19
      exfalso; omega
  · have b22 : x3.toInt ≠ x9.toInt := hw_ine c14
    exfalso
    first | omega | contradiction | (subst_vars; omega)

