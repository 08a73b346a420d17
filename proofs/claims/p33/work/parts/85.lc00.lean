theorem hw_hfg {G : Nat → Nat} {WR : List Nat} {sz : Nat} {locs : List Loc} (hG0 : G = fun _ => 0) (h0 : 0 ∉ WR) (h : ∀ q ∈ locs, hw_AW G WR sz q.base) : ∀ q ∈ locs, sz ≤ q.base := fun q h9 => (h q h9).elim (fun z => absurd (by rw [hG0] at z; exact z) h0) id
def hw_rel (la sz9 fla fsz : Nat → Int32) : Prop := ∀ j, j < 4 → ((la j).toInt = -1 ↔ (fsz j).toInt < 0) ∧ ((la j).toInt ≠ -1 → (fla j).toInt = (la j).toInt ∧ (fsz j).toInt = (sz9 j).toInt)
theorem hw_rel0 {fla fsz : Nat → Int32} (h : ∀ j, j < 4 → fsz j = -1) : hw_rel (fun _ => -1) (fun _ => 0) fla fsz := by
  intro j hj
  have e1 : (fsz j).toInt = -1 := by rw [h j hj]; rfl
  have e2 : (-1 : Int32).toInt = -1 := rfl
  refine ⟨⟨fun _ => by omega, fun _ => e2⟩, fun h => absurd e2 h⟩
theorem hw_rel_rack {la sz9 fla fsz : Nat → Int32} {i u v : Int32} (h : hw_rel la sz9 fla fsz) (hu : 0 ≤ u.toInt) (hv : 0 ≤ v.toInt) : hw_rel (va_up la i.toNatClampNeg u) (va_up sz9 i.toNatClampNeg v) (upd fla i.toNatClampNeg u) (upd fsz i.toNatClampNeg v) := by
  intro j hj
  unfold upd
  by_cases e : j = i.toNatClampNeg
  · subst e
    rw [va_up_self, va_up_self, if_pos rfl, if_pos rfl]
    refine ⟨⟨fun _ => by omega, fun _ => by omega⟩, fun _ => ⟨rfl, rfl⟩⟩
  · rw [va_up_ne la u e, va_up_ne sz9 v e, if_neg e, if_neg e]
    exact h j hj
theorem hw_rel_drop {la sz9 fla fsz : Nat → Int32} {i : Int32} (h : hw_rel la sz9 fla fsz) : hw_rel (va_up la i.toNatClampNeg (-1)) (va_up sz9 i.toNatClampNeg (sz9 i.toNatClampNeg)) fla (upd fsz i.toNatClampNeg (-1)) := by
  intro j hj
  unfold upd
  have e2 : (-1 : Int32).toInt = -1 := rfl
  by_cases e : j = i.toNatClampNeg
  · subst e
    rw [va_up_self, va_up_self, if_pos rfl]
    refine ⟨⟨fun _ => by omega, fun _ => e2⟩, fun h => absurd e2 h⟩
  · rw [va_up_ne la _ e, va_up_ne sz9 _ e, if_neg e]
    exact h j hj
theorem hw_qsz_up {f : Nat → Int32} {i : Nat} {v : Int32} (h : ∀ j, j < 4 → -1 ≤ (f j).toInt ∧ (f j).toInt ≤ 24) (h1 : -1 ≤ v.toInt) (h2 : v.toInt ≤ 24) : ∀ j, j < 4 → -1 ≤ (upd f i v j).toInt ∧ (upd f i v j).toInt ≤ 24 := by
  intro j hj
  unfold upd
  by_cases e : j = i
  · rw [if_pos e]; exact ⟨h1, h2⟩
  · rw [if_neg e]; exact h j hj
def hw_I (D : hw_D) (G : Nat → Nat) (s : State) (H : Heap) (x mo : Nat) : Prop := ∃ (G1 rx rm : Nat → Nat) (pnx pcx ksx scx udm kym lom wkm dkm lnm smm fim bem rkm rlm rwm clm dgm : Int32) (fq : Nat → Option Nat) (la sz9 fla fsz : Nat → Int32) (th : Nat → Nat) (tt : Nat → Nat → Int64) (fth : Nat → Int64), hw_HT D G1 H ∧ (∀ q, q < s.heap.size → G1 q = G q) ∧ s.heap.size ≤ x ∧ s.heap.size ≤ mo ∧ G1 x = 1 ∧ G1 mo = 9 ∧ hw_RX G1 rx ∧ va_at D.1 vwCl (x, .inr (10, hw_LX rx pnx pcx ksx scx)) H ∧ (0 ≤ scx.toInt ∧ scx.toInt ≤ 6) ∧ va_at D.1 vwCl (rx 13, .inl (D.2.1 7, 4, .inr (.inr (.inr (.inr fq))))) H ∧ hw_RK3 D G1 fq th la sz9 tt H ∧ hw_RM G1 rm ∧ va_at D.1 vwCl (mo, .inr (11, hw_LM rm udm kym lom wkm dkm lnm smm fim bem rkm rlm rwm clm dgm)) H ∧ (0 ≤ udm.toInt ∧ udm.toInt ≤ 8) ∧ (0 ≤ kym.toInt ∧ kym.toInt ≤ 7) ∧ (0 ≤ lom.toInt ∧ lom.toInt ≤ 7) ∧ (0 ≤ wkm.toInt ∧ wkm.toInt ≤ 3) ∧ (0 ≤ lnm.toInt ∧ lnm.toInt ≤ 200) ∧ (0 ≤ smm.toInt ∧ smm.toInt ≤ 6) ∧ (0 ≤ fim.toInt ∧ fim.toInt ≤ 200) ∧ (0 ≤ bem.toInt ∧ bem.toInt ≤ 200) ∧ (0 ≤ rkm.toInt ∧ rkm.toInt ≤ 7) ∧ (0 ≤ rlm.toInt ∧ rlm.toInt ≤ 7) ∧ (0 ≤ rwm.toInt ∧ rwm.toInt ≤ 3) ∧ (0 ≤ dgm.toInt ∧ dgm.toInt ≤ 1) ∧ va_at D.1 vwCl (rm 41, .inl (D.2.1 0, 4, .inl fla)) H ∧ va_at D.1 vwCl (rm 42, .inl (D.2.1 0, 4, .inl fsz)) H ∧ (∀ j, j < 4 → -1 ≤ (fsz j).toInt ∧ (fsz j).toInt ≤ 24) ∧ hw_rel la sz9 fla fsz ∧ va_at D.1 vwCl (rm 43, .inl (D.2.1 1, 96, .inr (.inl fth))) H ∧ hw_relT la sz9 tt fth
theorem hw_I_elim {D : hw_D} {G : Nat → Nat} {s : State} {H : Heap} {x mo : Nat} {P9 : Prop} (h : hw_I D G s H x mo) (k9 : ∀ (G1 rx rm : Nat → Nat) (pnx pcx ksx scx udm kym lom wkm dkm lnm smm fim bem rkm rlm rwm clm dgm : Int32) (fq : Nat → Option Nat) (la sz9 fla fsz : Nat → Int32) (th : Nat → Nat) (tt : Nat → Nat → Int64) (fth : Nat → Int64), hw_HT D G1 H → (∀ q, q < s.heap.size → G1 q = G q) → s.heap.size ≤ x → s.heap.size ≤ mo → G1 x = 1 → G1 mo = 9 → hw_RX G1 rx → va_at D.1 vwCl (x, .inr (10, hw_LX rx pnx pcx ksx scx)) H → (0 ≤ scx.toInt ∧ scx.toInt ≤ 6) → va_at D.1 vwCl (rx 13, .inl (D.2.1 7, 4, .inr (.inr (.inr (.inr fq))))) H → hw_RK3 D G1 fq th la sz9 tt H → hw_RM G1 rm → va_at D.1 vwCl (mo, .inr (11, hw_LM rm udm kym lom wkm dkm lnm smm fim bem rkm rlm rwm clm dgm)) H → (0 ≤ udm.toInt ∧ udm.toInt ≤ 8) → (0 ≤ kym.toInt ∧ kym.toInt ≤ 7) → (0 ≤ lom.toInt ∧ lom.toInt ≤ 7) → (0 ≤ wkm.toInt ∧ wkm.toInt ≤ 3) → (0 ≤ lnm.toInt ∧ lnm.toInt ≤ 200) → (0 ≤ smm.toInt ∧ smm.toInt ≤ 6) → (0 ≤ fim.toInt ∧ fim.toInt ≤ 200) → (0 ≤ bem.toInt ∧ bem.toInt ≤ 200) → (0 ≤ rkm.toInt ∧ rkm.toInt ≤ 7) → (0 ≤ rlm.toInt ∧ rlm.toInt ≤ 7) → (0 ≤ rwm.toInt ∧ rwm.toInt ≤ 3) → (0 ≤ dgm.toInt ∧ dgm.toInt ≤ 1) → va_at D.1 vwCl (rm 41, .inl (D.2.1 0, 4, .inl fla)) H → va_at D.1 vwCl (rm 42, .inl (D.2.1 0, 4, .inl fsz)) H → (∀ j, j < 4 → -1 ≤ (fsz j).toInt ∧ (fsz j).toInt ≤ 24) → hw_rel la sz9 fla fsz → va_at D.1 vwCl (rm 43, .inl (D.2.1 1, 96, .inr (.inl fth))) H → hw_relT la sz9 tt fth → P9) : P9 := by
  obtain ⟨G1, rx, rm, pnx, pcx, ksx, scx, udm, kym, lom, wkm, dkm, lnm, smm, fim, bem, rkm, rlm, rwm, clm, dgm, fq, la, sz9, fla, fsz, th, tt, fth, hH, hGe1, wx, wm, gx, gm, Rx, vx, gsc, vq, hRK, Rm, vm, gm0, gm1, gm2, gm3, gm4, gm5, gm6, gm7, gm8, gm9, gm10, gm11, vla, vsz, qsz, hrel, vth, hrt⟩ := h
  exact k9 G1 rx rm pnx pcx ksx scx udm kym lom wkm dkm lnm smm fim bem rkm rlm rwm clm dgm fq la sz9 fla fsz th tt fth hH hGe1 wx wm gx gm Rx vx gsc vq hRK Rm vm gm0 gm1 gm2 gm3 gm4 gm5 gm6 gm7 gm8 gm9 gm10 gm11 vla vsz qsz hrel vth hrt
set_option maxHeartbeats 40000000 in
set_option maxRecDepth 100000 in
theorem hw_case184 {p : Program} {e : Env} {s : State} {m : MethodId} {below : List Frame} {meth : Method} {c : Code} (l : Launch) {b L : Nat} {xs : Nat → Int32} {D : hw_D} {G : Nat → Nat} {H : Heap} {locs : List Loc} {x mo k n : Nat} {y3 : Int32} {ls : Array Slot} (hL : L ≤ 384) (hy0 : 0 ≤ y3.toInt ∧ y3.toInt ≤ 384) (hy : y3.toInt + 6 ≤ L) (hkc : k + 20 ≤ 600000) (hnc : n + 80 ≤ 7302250) (hx : p.tables.exec = Jvm.exec) (hb : c.code = code) (hr : meth.sig.returnType = ret) (hml : c.maxLocals = 4) (hown : s.vm.findClass R_law = some m.cls) (hts0 : ∀ w ∈ lw_tbl, w.before #[Value.ref b] s = true) (hts : ∀ w ∈ wsL_law, w.before #[Value.ref b] s = true) (hX : va_X b L xs s s.heap) (hbl : b < s.heap.size) (hlocks : meth.locks = false) (hG0 : G = fun _ => 0) (hK : va_K D.1 vwCl (hw_ty D.2.1) s) (hST : hw_ST D.2.2 G s.heap.size s) (hI : hw_I D G s H x mo) (hS : va_S (hw_AW G [1, 2, 3, 4, 5, 6, 7, 8, 9, 10, 11, 12, 13, 14, 15, 16, 17, 18, 19, 20, 21, 22, 23, 24, 25, 26, 27, 28, 29, 30, 31, 32, 40, 42, 44, 45, 46, 48, 49, 50, 51, 53, 55, 58, 59, 67, 68, 69, 70, 71, 72, 73, 74, 75, 76, 77, 78, 79, 80, 81, 82, 83, 84, 101, 102, 103, 104, 105, 106, 107, 108, 109, 127, 128, 129, 132] s.heap.size) s.heap H locs) (hl : lv_has ls 4 [(3, .int y3), (2, .ref mo), (1, .ref x), (0, .ref b)]) (hk9 : ∀ (H1 : Heap) (locs1 : List Loc) (ls1 : Array Slot), hw_I D G s H1 x mo → va_S (hw_AW G [1, 2, 3, 4, 5, 6, 7, 8, 9, 10, 11, 12, 13, 14, 15, 16, 17, 18, 19, 20, 21, 22, 23, 24, 25, 26, 27, 28, 29, 30, 31, 32, 40, 42, 44, 45, 46, 48, 49, 50, 51, 53, 55, 58, 59, 67, 68, 69, 70, 71, 72, 73, 74, 75, 76, 77, 78, 79, 80, 81, 82, 83, 84, 101, 102, 103, 104, 105, 106, 107, 108, 109, 127, 128, 129, 132] s.heap.size) s.heap H1 locs1 → lv_has ls1 4 [(3, .int y3), (2, .ref mo), (1, .ref x), (0, .ref b)] → W p l e room_1 s m #[Value.ref b] below meth c H1 locs1 (k + 20) (n + 80) (lw_Z below #[Value.ref b] s) (F0 m 1187 ls1 [])) : W p l e room_1 s m #[Value.ref b] below meth c H locs k n (lw_Z below #[Value.ref b] s) (F0 m 184 ls []) := by
  have hH0 : hw_HT D G s.heap := fun a h => absurd (by rw [hG0]) h
  have hbA : ¬ (hw_AW G [1, 2, 3, 4, 5, 6, 7, 8, 9, 10, 11, 12, 13, 14, 15, 16, 17, 18, 19, 20, 21, 22, 23, 24, 25, 26, 27, 28, 29, 30, 31, 32, 40, 42, 44, 45, 46, 48, 49, 50, 51, 53, 55, 58, 59, 67, 68, 69, 70, 71, 72, 73, 74, 75, 76, 77, 78, 79, 80, 81, 82, 83, 84, 101, 102, 103, 104, 105, 106, 107, 108, 109, 127, 128, 129, 132] s.heap.size) b := hw_AWn (k := 0) (by rw [hG0]) (by decide) hbl
  have hLi : (Int32.ofNat L).toInt = (L : Int) := nI_toInt (by omega)
  refine hw_I_elim hI ?_
  intro G1 rx rm pnx pcx ksx scx udm kym lom wkm dkm lnm smm fim bem rkm rlm rwm clm dgm fq la sz9 fla fsz th tt fth hH hGe1 wx wm gx gm Rx vx gsc vq hRK Rm vm gm0 gm1 gm2 gm3 gm4 gm5 gm6 gm7 gm8 gm9 gm10 gm11 vla vsz qsz hrel vth hrt
  have hHs := hH0
  have hz24 := hw_hz24 hrel qsz
  have qq := hRK.q
  refine lv_aload_n hx hb dL_law_184 rfl (lv_at hl 2 rfl) ?_
  refine lv_aload_n hx hb dL_law_185 rfl (lv_at hl 3 rfl) ?_
  refine lv_iload_n hx hb dL_law_186 rfl (lv_at hl 0 rfl) ?_
  refine lv_iconst (v := 1) hx hb dL_law_187 (by decide) ?_
  refine lv_iadd hx hb dL_law_188 ?_
  have t1 : (y3 + 1).toInt = y3.toInt + 1 := hw_add rfl rfl (by omega) (by omega)
  refine va_sld hx hb hX hbl hbA hS (hw_in (by omega) (by omega)) dL_law_189 ?_
  obtain ⟨r2, ln_3, cl_4, st_5, en_6, kf_7, lf_8, wf_9, v10, R11, g12, g13, g14, g15⟩ := hH.oT (hw_RX_1 Rx)
  refine hw_cM0 (va_runV (As := [.int (xs (y3 + 1).toNatClampNeg)]) (rest := []) ⟨hx, hb, hml, hown, hts⟩ (k_X11_write l D G1 x (xs (y3 + 1).toNatClampNeg) _ rx pnx pcx ksx scx r2 ln_3 cl_4 st_5 en_6 kf_7 lf_8 wf_9 gx Rx ⟨by first | decide | omega, by first | decide | omega⟩ R11 ⟨by first | decide | omega, by first | decide | omega⟩ ⟨by first | decide | omega, by first | decide | omega⟩ ⟨by first | decide | omega, by first | decide | omega⟩ ⟨by first | decide | omega, by first | decide | omega⟩) (cwV 1 hts gL_law_X11_write rfl rfl rfl (by decide +kernel) ⟨Nat.le_of_ble_eq_true rfl, Nat.le_of_ble_eq_true rfl⟩) (hw_pV (hw_rc (q := (RX11, TX11, 14)) hK vx rfl) hH hK hST hS (by decide) (hw_hG hGe1) ⟨vx, v10⟩) rfl rfl hl.1 rfl (lv_room (Nat.le_of_ble_eq_true rfl)) dL_law_190 ⟨by show _ ≤ 600000; omega, by show _ ≤ 7302250; omega⟩) hS (hw_AWsub (by decide) hGe1 hS.1) (fun v H locs hp hz hk hS => ?_)
  rcases hp with ⟨x16, rfl, hH, v17, v18, g19, q20⟩ | ⟨x21, rfl, hH, v22, v23, g24, q25, q26⟩ | ⟨x27, x28, rfl, hH, v29, v30, g31, q32, q33, q34⟩
  · have hRK := hw_RK3.kept hRK (fun q9 h9 l9 => hk q9 l9 (by rcases h9 with h9 | h9 <;> exact hw_AWn h9 (by decide) l9))
    have vq := va_at.kept vq (hk _ (hw_lt vq) (hw_AWn (hw_RX_13 Rx) (by decide) (hw_lt vq)))
    have vm := va_at.kept vm (hk _ (hw_lt vm) (hw_AWn gm (by decide) (hw_lt vm)))
    have vla := va_at.kept vla (hk _ (hw_lt vla) (hw_AWn (hw_RM_41 Rm) (by decide) (hw_lt vla)))
    have vsz := va_at.kept vsz (hk _ (hw_lt vsz) (hw_AWn (hw_RM_42 Rm) (by decide) (hw_lt vsz)))
    have vth := va_at.kept vth (hk _ (hw_lt vth) (hw_AWn (hw_RM_43 Rm) (by decide) (hw_lt vth)))
    refine lv_pop hx hb dL_law_193 rfl ?_
    refine lv_aload_n hx hb dL_law_194 rfl (lv_at hl 1 rfl) ?_
    refine lv_aload_n hx hb dL_law_195 rfl (lv_at hl 3 rfl) ?_
    refine lv_iload_n hx hb dL_law_196 rfl (lv_at hl 0 rfl) ?_
    refine lv_iconst (v := 1) hx hb dL_law_197 (by decide) ?_
    refine lv_iadd hx hb dL_law_198 ?_
    refine va_sld hx hb hX hbl hbA hS (hw_in (by omega) (by omega)) dL_law_199 ?_
    refine hw_cM0 (va_runV (As := [.int (xs (y3 + 1).toNatClampNeg)]) (rest := []) ⟨hx, hb, hml, hown, hts⟩ (k_X12_write l D G1 mo (xs (y3 + 1).toNatClampNeg) _ rm udm kym lom wkm dkm lnm smm fim bem rkm rlm rwm clm dgm gm Rm ⟨by first | decide | omega, by first | decide | omega⟩ ⟨by first | decide | omega, by first | decide | omega⟩ ⟨by first | decide | omega, by first | decide | omega⟩ ⟨by first | decide | omega, by first | decide | omega⟩ ⟨by first | decide | omega, by first | decide | omega⟩ ⟨by first | decide | omega, by first | decide | omega⟩ ⟨by first | decide | omega, by first | decide | omega⟩ ⟨by first | decide | omega, by first | decide | omega⟩ ⟨by first | decide | omega, by first | decide | omega⟩ ⟨by first | decide | omega, by first | decide | omega⟩ ⟨by first | decide | omega, by first | decide | omega⟩ ⟨by first | decide | omega, by first | decide | omega⟩) (cwV 1 hts gL_law_X12_write rfl rfl rfl (by decide +kernel) ⟨Nat.le_of_ble_eq_true rfl, Nat.le_of_ble_eq_true rfl⟩) (hw_pV (hw_rc (q := (RX12, TX12, 45)) hK vm rfl) hH hK hST hS (by decide) (hw_hG hGe1) vm) rfl rfl hl.1 rfl (lv_room (Nat.le_of_ble_eq_true rfl)) dL_law_200 ⟨by show _ ≤ 600000; omega, by show _ ≤ 7302250; omega⟩) hS (hw_AWsub (by decide) hGe1 hS.1) (fun v H locs hp hz hk hS => ?_)
    rcases hp with ⟨x35, rfl, hH, v36, g37, q38⟩ | ⟨x39, rfl, hH, v40, g41, q42, q43⟩ | ⟨x44, x45, rfl, hH, v46, g47, q48, q49, q50⟩
    · have hRK := hw_RK3.kept hRK (fun q9 h9 l9 => hk q9 l9 (by rcases h9 with h9 | h9 <;> exact hw_AWn h9 (by decide) l9))
      have v17 := va_at.kept v17 (hk _ (hw_lt v17) (hw_AWn gx (by decide) (hw_lt v17)))
      have vq := va_at.kept vq (hk _ (hw_lt vq) (hw_AWn (hw_RX_13 Rx) (by decide) (hw_lt vq)))
      have vla := va_at.kept vla (hk _ (hw_lt vla) (hw_AWn (hw_RM_41 Rm) (by decide) (hw_lt vla)))
      have vsz := va_at.kept vsz (hk _ (hw_lt vsz) (hw_AWn (hw_RM_42 Rm) (by decide) (hw_lt vsz)))
      have vth := va_at.kept vth (hk _ (hw_lt vth) (hw_AWn (hw_RM_43 Rm) (by decide) (hw_lt vth)))
      have v18 := va_at.kept v18 (hk _ (hw_lt v18) (hw_AWn (hw_RX_1 Rx) (by decide) (hw_lt v18)))
      refine lv_pop hx hb dL_law_203 rfl ?_
      refine lv_goto (tgt := 1187) hx hb dL_law_204 (by decide) ?_
      refine W.widen (k := k + 20) (n := n + 80) (by first | omega | (show _ ≤ _; omega)) (by first | omega | (show _ ≤ _; omega)) ?_
      exact hk9 _ _ _ ⟨G1, rx, rm, pnx, pcx, ksx, scx, udm, kym, lom, wkm, dkm, x35, smm, fim, bem, rkm, rlm, rwm, clm, dgm, fq, la, sz9, fla, fsz, th, tt, fth, hH, hGe1, wx, wm, gx, gm, Rx, v17, ⟨by first | decide | omega, by first | decide | omega⟩, vq, hRK, Rm, v36, ⟨by first | decide | omega, by first | decide | omega⟩, ⟨by first | decide | omega, by first | decide | omega⟩, ⟨by first | decide | omega, by first | decide | omega⟩, ⟨by first | decide | omega, by first | decide | omega⟩, ⟨by first | decide | omega, by first | decide | omega⟩, ⟨by first | decide | omega, by first | decide | omega⟩, ⟨by first | decide | omega, by first | decide | omega⟩, ⟨by first | decide | omega, by first | decide | omega⟩, ⟨by first | decide | omega, by first | decide | omega⟩, ⟨by first | decide | omega, by first | decide | omega⟩, ⟨by first | decide | omega, by first | decide | omega⟩, ⟨by first | decide | omega, by first | decide | omega⟩, vla, vsz, qsz, hrel, vth, hrt⟩ hS hl
    · have hRK := hw_RK3.kept hRK (fun q9 h9 l9 => hk q9 l9 (by rcases h9 with h9 | h9 <;> exact hw_AWn h9 (by decide) l9))
      have v17 := va_at.kept v17 (hk _ (hw_lt v17) (hw_AWn gx (by decide) (hw_lt v17)))
      have vq := va_at.kept vq (hk _ (hw_lt vq) (hw_AWn (hw_RX_13 Rx) (by decide) (hw_lt vq)))
      have vla := va_at.kept vla (hk _ (hw_lt vla) (hw_AWn (hw_RM_41 Rm) (by decide) (hw_lt vla)))
      have vsz := va_at.kept vsz (hk _ (hw_lt vsz) (hw_AWn (hw_RM_42 Rm) (by decide) (hw_lt vsz)))
      have vth := va_at.kept vth (hk _ (hw_lt vth) (hw_AWn (hw_RM_43 Rm) (by decide) (hw_lt vth)))
      have v18 := va_at.kept v18 (hk _ (hw_lt v18) (hw_AWn (hw_RX_1 Rx) (by decide) (hw_lt v18)))
      refine lv_pop hx hb dL_law_203 rfl ?_
      refine lv_goto (tgt := 1187) hx hb dL_law_204 (by decide) ?_
      refine W.widen (k := k + 20) (n := n + 80) (by first | omega | (show _ ≤ _; omega)) (by first | omega | (show _ ≤ _; omega)) ?_
      exact hk9 _ _ _ ⟨G1, rx, rm, pnx, pcx, ksx, scx, udm, kym, lom, wkm, dkm, x39, smm, fim, bem, rkm, rlm, rwm, clm, dgm, fq, la, sz9, fla, fsz, th, tt, fth, hH, hGe1, wx, wm, gx, gm, Rx, v17, ⟨by first | decide | omega, by first | decide | omega⟩, vq, hRK, Rm, v40, ⟨by first | decide | omega, by first | decide | omega⟩, ⟨by first | decide | omega, by first | decide | omega⟩, ⟨by first | decide | omega, by first | decide | omega⟩, ⟨by first | decide | omega, by first | decide | omega⟩, ⟨by first | decide | omega, by first | decide | omega⟩, ⟨by first | decide | omega, by first | decide | omega⟩, ⟨by first | decide | omega, by first | decide | omega⟩, ⟨by first | decide | omega, by first | decide | omega⟩, ⟨by first | decide | omega, by first | decide | omega⟩, ⟨by first | decide | omega, by first | decide | omega⟩, ⟨by first | decide | omega, by first | decide | omega⟩, ⟨by first | decide | omega, by first | decide | omega⟩, vla, vsz, qsz, hrel, vth, hrt⟩ hS hl
    · have hRK := hw_RK3.kept hRK (fun q9 h9 l9 => hk q9 l9 (by rcases h9 with h9 | h9 <;> exact hw_AWn h9 (by decide) l9))
      have v17 := va_at.kept v17 (hk _ (hw_lt v17) (hw_AWn gx (by decide) (hw_lt v17)))
      have vq := va_at.kept vq (hk _ (hw_lt vq) (hw_AWn (hw_RX_13 Rx) (by decide) (hw_lt vq)))
      have vla := va_at.kept vla (hk _ (hw_lt vla) (hw_AWn (hw_RM_41 Rm) (by decide) (hw_lt vla)))
      have vsz := va_at.kept vsz (hk _ (hw_lt vsz) (hw_AWn (hw_RM_42 Rm) (by decide) (hw_lt vsz)))
      have vth := va_at.kept vth (hk _ (hw_lt vth) (hw_AWn (hw_RM_43 Rm) (by decide) (hw_lt vth)))
      have v18 := va_at.kept v18 (hk _ (hw_lt v18) (hw_AWn (hw_RX_1 Rx) (by decide) (hw_lt v18)))
      refine lv_pop hx hb dL_law_203 rfl ?_
      refine lv_goto (tgt := 1187) hx hb dL_law_204 (by decide) ?_
      refine W.widen (k := k + 20) (n := n + 80) (by first | omega | (show _ ≤ _; omega)) (by first | omega | (show _ ≤ _; omega)) ?_
      exact hk9 _ _ _ ⟨G1, rx, rm, pnx, pcx, ksx, scx, udm, kym, lom, wkm, dkm, x45, smm, fim, bem, rkm, rlm, rwm, clm, dgm, fq, la, sz9, fla, fsz, th, tt, fth, hH, hGe1, wx, wm, gx, gm, Rx, v17, ⟨by first | decide | omega, by first | decide | omega⟩, vq, hRK, Rm, v46, ⟨by first | decide | omega, by first | decide | omega⟩, ⟨by first | decide | omega, by first | decide | omega⟩, ⟨by first | decide | omega, by first | decide | omega⟩, ⟨by first | decide | omega, by first | decide | omega⟩, ⟨by first | decide | omega, by first | decide | omega⟩, ⟨by first | decide | omega, by first | decide | omega⟩, ⟨by first | decide | omega, by first | decide | omega⟩, ⟨by first | decide | omega, by first | decide | omega⟩, ⟨by first | decide | omega, by first | decide | omega⟩, ⟨by first | decide | omega, by first | decide | omega⟩, ⟨by first | decide | omega, by first | decide | omega⟩, ⟨by first | decide | omega, by first | decide | omega⟩, vla, vsz, qsz, hrel, vth, hrt⟩ hS hl
  · have hRK := hw_RK3.kept hRK (fun q9 h9 l9 => hk q9 l9 (by rcases h9 with h9 | h9 <;> exact hw_AWn h9 (by decide) l9))
    have vq := va_at.kept vq (hk _ (hw_lt vq) (hw_AWn (hw_RX_13 Rx) (by decide) (hw_lt vq)))
    have vm := va_at.kept vm (hk _ (hw_lt vm) (hw_AWn gm (by decide) (hw_lt vm)))
    have vla := va_at.kept vla (hk _ (hw_lt vla) (hw_AWn (hw_RM_41 Rm) (by decide) (hw_lt vla)))
    have vsz := va_at.kept vsz (hk _ (hw_lt vsz) (hw_AWn (hw_RM_42 Rm) (by decide) (hw_lt vsz)))
    have vth := va_at.kept vth (hk _ (hw_lt vth) (hw_AWn (hw_RM_43 Rm) (by decide) (hw_lt vth)))
    refine lv_pop hx hb dL_law_193 rfl ?_
    refine lv_aload_n hx hb dL_law_194 rfl (lv_at hl 1 rfl) ?_
    refine lv_aload_n hx hb dL_law_195 rfl (lv_at hl 3 rfl) ?_
    refine lv_iload_n hx hb dL_law_196 rfl (lv_at hl 0 rfl) ?_
    refine lv_iconst (v := 1) hx hb dL_law_197 (by decide) ?_
    refine lv_iadd hx hb dL_law_198 ?_
    refine va_sld hx hb hX hbl hbA hS (hw_in (by omega) (by omega)) dL_law_199 ?_
    refine hw_cM0 (va_runV (As := [.int (xs (y3 + 1).toNatClampNeg)]) (rest := []) ⟨hx, hb, hml, hown, hts⟩ (k_X12_write l D G1 mo (xs (y3 + 1).toNatClampNeg) _ rm udm kym lom wkm dkm lnm smm fim bem rkm rlm rwm clm dgm gm Rm ⟨by first | decide | omega, by first | decide | omega⟩ ⟨by first | decide | omega, by first | decide | omega⟩ ⟨by first | decide | omega, by first | decide | omega⟩ ⟨by first | decide | omega, by first | decide | omega⟩ ⟨by first | decide | omega, by first | decide | omega⟩ ⟨by first | decide | omega, by first | decide | omega⟩ ⟨by first | decide | omega, by first | decide | omega⟩ ⟨by first | decide | omega, by first | decide | omega⟩ ⟨by first | decide | omega, by first | decide | omega⟩ ⟨by first | decide | omega, by first | decide | omega⟩ ⟨by first | decide | omega, by first | decide | omega⟩ ⟨by first | decide | omega, by first | decide | omega⟩) (cwV 1 hts gL_law_X12_write rfl rfl rfl (by decide +kernel) ⟨Nat.le_of_ble_eq_true rfl, Nat.le_of_ble_eq_true rfl⟩) (hw_pV (hw_rc (q := (RX12, TX12, 45)) hK vm rfl) hH hK hST hS (by decide) (hw_hG hGe1) vm) rfl rfl hl.1 rfl (lv_room (Nat.le_of_ble_eq_true rfl)) dL_law_200 ⟨by show _ ≤ 600000; omega, by show _ ≤ 7302250; omega⟩) hS (hw_AWsub (by decide) hGe1 hS.1) (fun v H locs hp hz hk hS => ?_)
    rcases hp with ⟨x51, rfl, hH, v52, g53, q54⟩ | ⟨x55, rfl, hH, v56, g57, q58, q59⟩ | ⟨x60, x61, rfl, hH, v62, g63, q64, q65, q66⟩
    · have hRK := hw_RK3.kept hRK (fun q9 h9 l9 => hk q9 l9 (by rcases h9 with h9 | h9 <;> exact hw_AWn h9 (by decide) l9))
      have v22 := va_at.kept v22 (hk _ (hw_lt v22) (hw_AWn gx (by decide) (hw_lt v22)))
      have vq := va_at.kept vq (hk _ (hw_lt vq) (hw_AWn (hw_RX_13 Rx) (by decide) (hw_lt vq)))
      have vla := va_at.kept vla (hk _ (hw_lt vla) (hw_AWn (hw_RM_41 Rm) (by decide) (hw_lt vla)))
      have vsz := va_at.kept vsz (hk _ (hw_lt vsz) (hw_AWn (hw_RM_42 Rm) (by decide) (hw_lt vsz)))
      have vth := va_at.kept vth (hk _ (hw_lt vth) (hw_AWn (hw_RM_43 Rm) (by decide) (hw_lt vth)))
      have v23 := va_at.kept v23 (hk _ (hw_lt v23) (hw_AWn (hw_RX_1 Rx) (by decide) (hw_lt v23)))
      refine lv_pop hx hb dL_law_203 rfl ?_
      refine lv_goto (tgt := 1187) hx hb dL_law_204 (by decide) ?_
      refine W.widen (k := k + 20) (n := n + 80) (by first | omega | (show _ ≤ _; omega)) (by first | omega | (show _ ≤ _; omega)) ?_
      exact hk9 _ _ _ ⟨G1, rx, rm, pnx, pcx, ksx, scx, udm, kym, lom, wkm, dkm, x51, smm, fim, bem, rkm, rlm, rwm, clm, dgm, fq, la, sz9, fla, fsz, th, tt, fth, hH, hGe1, wx, wm, gx, gm, Rx, v22, ⟨by first | decide | omega, by first | decide | omega⟩, vq, hRK, Rm, v52, ⟨by first | decide | omega, by first | decide | omega⟩, ⟨by first | decide | omega, by first | decide | omega⟩, ⟨by first | decide | omega, by first | decide | omega⟩, ⟨by first | decide | omega, by first | decide | omega⟩, ⟨by first | decide | omega, by first | decide | omega⟩, ⟨by first | decide | omega, by first | decide | omega⟩, ⟨by first | decide | omega, by first | decide | omega⟩, ⟨by first | decide | omega, by first | decide | omega⟩, ⟨by first | decide | omega, by first | decide | omega⟩, ⟨by first | decide | omega, by first | decide | omega⟩, ⟨by first | decide | omega, by first | decide | omega⟩, ⟨by first | decide | omega, by first | decide | omega⟩, vla, vsz, qsz, hrel, vth, hrt⟩ hS hl
    · have hRK := hw_RK3.kept hRK (fun q9 h9 l9 => hk q9 l9 (by rcases h9 with h9 | h9 <;> exact hw_AWn h9 (by decide) l9))
      have v22 := va_at.kept v22 (hk _ (hw_lt v22) (hw_AWn gx (by decide) (hw_lt v22)))
      have vq := va_at.kept vq (hk _ (hw_lt vq) (hw_AWn (hw_RX_13 Rx) (by decide) (hw_lt vq)))
      have vla := va_at.kept vla (hk _ (hw_lt vla) (hw_AWn (hw_RM_41 Rm) (by decide) (hw_lt vla)))
      have vsz := va_at.kept vsz (hk _ (hw_lt vsz) (hw_AWn (hw_RM_42 Rm) (by decide) (hw_lt vsz)))
      have vth := va_at.kept vth (hk _ (hw_lt vth) (hw_AWn (hw_RM_43 Rm) (by decide) (hw_lt vth)))
      have v23 := va_at.kept v23 (hk _ (hw_lt v23) (hw_AWn (hw_RX_1 Rx) (by decide) (hw_lt v23)))
      refine lv_pop hx hb dL_law_203 rfl ?_
      refine lv_goto (tgt := 1187) hx hb dL_law_204 (by decide) ?_
      refine W.widen (k := k + 20) (n := n + 80) (by first | omega | (show _ ≤ _; omega)) (by first | omega | (show _ ≤ _; omega)) ?_
      exact hk9 _ _ _ ⟨G1, rx, rm, pnx, pcx, ksx, scx, udm, kym, lom, wkm, dkm, x55, smm, fim, bem, rkm, rlm, rwm, clm, dgm, fq, la, sz9, fla, fsz, th, tt, fth, hH, hGe1, wx, wm, gx, gm, Rx, v22, ⟨by first | decide | omega, by first | decide | omega⟩, vq, hRK, Rm, v56, ⟨by first | decide | omega, by first | decide | omega⟩, ⟨by first | decide | omega, by first | decide | omega⟩, ⟨by first | decide | omega, by first | decide | omega⟩, ⟨by first | decide | omega, by first | decide | omega⟩, ⟨by first | decide | omega, by first | decide | omega⟩, ⟨by first | decide | omega, by first | decide | omega⟩, ⟨by first | decide | omega, by first | decide | omega⟩, ⟨by first | decide | omega, by first | decide | omega⟩, ⟨by first | decide | omega, by first | decide | omega⟩, ⟨by first | decide | omega, by first | decide | omega⟩, ⟨by first | decide | omega, by first | decide | omega⟩, ⟨by first | decide | omega, by first | decide | omega⟩, vla, vsz, qsz, hrel, vth, hrt⟩ hS hl
    · have hRK := hw_RK3.kept hRK (fun q9 h9 l9 => hk q9 l9 (by rcases h9 with h9 | h9 <;> exact hw_AWn h9 (by decide) l9))
      have v22 := va_at.kept v22 (hk _ (hw_lt v22) (hw_AWn gx (by decide) (hw_lt v22)))
      have vq := va_at.kept vq (hk _ (hw_lt vq) (hw_AWn (hw_RX_13 Rx) (by decide) (hw_lt vq)))
      have vla := va_at.kept vla (hk _ (hw_lt vla) (hw_AWn (hw_RM_41 Rm) (by decide) (hw_lt vla)))
      have vsz := va_at.kept vsz (hk _ (hw_lt vsz) (hw_AWn (hw_RM_42 Rm) (by decide) (hw_lt vsz)))
      have vth := va_at.kept vth (hk _ (hw_lt vth) (hw_AWn (hw_RM_43 Rm) (by decide) (hw_lt vth)))
      have v23 := va_at.kept v23 (hk _ (hw_lt v23) (hw_AWn (hw_RX_1 Rx) (by decide) (hw_lt v23)))
      refine lv_pop hx hb dL_law_203 rfl ?_
      refine lv_goto (tgt := 1187) hx hb dL_law_204 (by decide) ?_
      refine W.widen (k := k + 20) (n := n + 80) (by first | omega | (show _ ≤ _; omega)) (by first | omega | (show _ ≤ _; omega)) ?_
      exact hk9 _ _ _ ⟨G1, rx, rm, pnx, pcx, ksx, scx, udm, kym, lom, wkm, dkm, x61, smm, fim, bem, rkm, rlm, rwm, clm, dgm, fq, la, sz9, fla, fsz, th, tt, fth, hH, hGe1, wx, wm, gx, gm, Rx, v22, ⟨by first | decide | omega, by first | decide | omega⟩, vq, hRK, Rm, v62, ⟨by first | decide | omega, by first | decide | omega⟩, ⟨by first | decide | omega, by first | decide | omega⟩, ⟨by first | decide | omega, by first | decide | omega⟩, ⟨by first | decide | omega, by first | decide | omega⟩, ⟨by first | decide | omega, by first | decide | omega⟩, ⟨by first | decide | omega, by first | decide | omega⟩, ⟨by first | decide | omega, by first | decide | omega⟩, ⟨by first | decide | omega, by first | decide | omega⟩, ⟨by first | decide | omega, by first | decide | omega⟩, ⟨by first | decide | omega, by first | decide | omega⟩, ⟨by first | decide | omega, by first | decide | omega⟩, ⟨by first | decide | omega, by first | decide | omega⟩, vla, vsz, qsz, hrel, vth, hrt⟩ hS hl
  · have hRK := hw_RK3.kept hRK (fun q9 h9 l9 => hk q9 l9 (by rcases h9 with h9 | h9 <;> exact hw_AWn h9 (by decide) l9))
    have vq := va_at.kept vq (hk _ (hw_lt vq) (hw_AWn (hw_RX_13 Rx) (by decide) (hw_lt vq)))
    have vm := va_at.kept vm (hk _ (hw_lt vm) (hw_AWn gm (by decide) (hw_lt vm)))
    have vla := va_at.kept vla (hk _ (hw_lt vla) (hw_AWn (hw_RM_41 Rm) (by decide) (hw_lt vla)))
    have vsz := va_at.kept vsz (hk _ (hw_lt vsz) (hw_AWn (hw_RM_42 Rm) (by decide) (hw_lt vsz)))
    have vth := va_at.kept vth (hk _ (hw_lt vth) (hw_AWn (hw_RM_43 Rm) (by decide) (hw_lt vth)))
    refine lv_pop hx hb dL_law_193 rfl ?_
    refine lv_aload_n hx hb dL_law_194 rfl (lv_at hl 1 rfl) ?_
    refine lv_aload_n hx hb dL_law_195 rfl (lv_at hl 3 rfl) ?_
    refine lv_iload_n hx hb dL_law_196 rfl (lv_at hl 0 rfl) ?_
    refine lv_iconst (v := 1) hx hb dL_law_197 (by decide) ?_
    refine lv_iadd hx hb dL_law_198 ?_
    refine va_sld hx hb hX hbl hbA hS (hw_in (by omega) (by omega)) dL_law_199 ?_
    refine hw_cM0 (va_runV (As := [.int (xs (y3 + 1).toNatClampNeg)]) (rest := []) ⟨hx, hb, hml, hown, hts⟩ (k_X12_write l D G1 mo (xs (y3 + 1).toNatClampNeg) _ rm udm kym lom wkm dkm lnm smm fim bem rkm rlm rwm clm dgm gm Rm ⟨by first | decide | omega, by first | decide | omega⟩ ⟨by first | decide | omega, by first | decide | omega⟩ ⟨by first | decide | omega, by first | decide | omega⟩ ⟨by first | decide | omega, by first | decide | omega⟩ ⟨by first | decide | omega, by first | decide | omega⟩ ⟨by first | decide | omega, by first | decide | omega⟩ ⟨by first | decide | omega, by first | decide | omega⟩ ⟨by first | decide | omega, by first | decide | omega⟩ ⟨by first | decide | omega, by first | decide | omega⟩ ⟨by first | decide | omega, by first | decide | omega⟩ ⟨by first | decide | omega, by first | decide | omega⟩ ⟨by first | decide | omega, by first | decide | omega⟩) (cwV 1 hts gL_law_X12_write rfl rfl rfl (by decide +kernel) ⟨Nat.le_of_ble_eq_true rfl, Nat.le_of_ble_eq_true rfl⟩) (hw_pV (hw_rc (q := (RX12, TX12, 45)) hK vm rfl) hH hK hST hS (by decide) (hw_hG hGe1) vm) rfl rfl hl.1 rfl (lv_room (Nat.le_of_ble_eq_true rfl)) dL_law_200 ⟨by show _ ≤ 600000; omega, by show _ ≤ 7302250; omega⟩) hS (hw_AWsub (by decide) hGe1 hS.1) (fun v H locs hp hz hk hS => ?_)
    rcases hp with ⟨x67, rfl, hH, v68, g69, q70⟩ | ⟨x71, rfl, hH, v72, g73, q74, q75⟩ | ⟨x76, x77, rfl, hH, v78, g79, q80, q81, q82⟩
    · have hRK := hw_RK3.kept hRK (fun q9 h9 l9 => hk q9 l9 (by rcases h9 with h9 | h9 <;> exact hw_AWn h9 (by decide) l9))
      have v29 := va_at.kept v29 (hk _ (hw_lt v29) (hw_AWn gx (by decide) (hw_lt v29)))
      have vq := va_at.kept vq (hk _ (hw_lt vq) (hw_AWn (hw_RX_13 Rx) (by decide) (hw_lt vq)))
      have vla := va_at.kept vla (hk _ (hw_lt vla) (hw_AWn (hw_RM_41 Rm) (by decide) (hw_lt vla)))
      have vsz := va_at.kept vsz (hk _ (hw_lt vsz) (hw_AWn (hw_RM_42 Rm) (by decide) (hw_lt vsz)))
      have vth := va_at.kept vth (hk _ (hw_lt vth) (hw_AWn (hw_RM_43 Rm) (by decide) (hw_lt vth)))
      have v30 := va_at.kept v30 (hk _ (hw_lt v30) (hw_AWn (hw_RX_1 Rx) (by decide) (hw_lt v30)))
      refine lv_pop hx hb dL_law_203 rfl ?_
      refine lv_goto (tgt := 1187) hx hb dL_law_204 (by decide) ?_
      refine W.widen (k := k + 20) (n := n + 80) (by first | omega | (show _ ≤ _; omega)) (by first | omega | (show _ ≤ _; omega)) ?_
      exact hk9 _ _ _ ⟨G1, rx, rm, pnx, pcx, ksx, scx, udm, kym, lom, wkm, dkm, x67, smm, fim, bem, rkm, rlm, rwm, clm, dgm, fq, la, sz9, fla, fsz, th, tt, fth, hH, hGe1, wx, wm, gx, gm, Rx, v29, ⟨by first | decide | omega, by first | decide | omega⟩, vq, hRK, Rm, v68, ⟨by first | decide | omega, by first | decide | omega⟩, ⟨by first | decide | omega, by first | decide | omega⟩, ⟨by first | decide | omega, by first | decide | omega⟩, ⟨by first | decide | omega, by first | decide | omega⟩, ⟨by first | decide | omega, by first | decide | omega⟩, ⟨by first | decide | omega, by first | decide | omega⟩, ⟨by first | decide | omega, by first | decide | omega⟩, ⟨by first | decide | omega, by first | decide | omega⟩, ⟨by first | decide | omega, by first | decide | omega⟩, ⟨by first | decide | omega, by first | decide | omega⟩, ⟨by first | decide | omega, by first | decide | omega⟩, ⟨by first | decide | omega, by first | decide | omega⟩, vla, vsz, qsz, hrel, vth, hrt⟩ hS hl
    · have hRK := hw_RK3.kept hRK (fun q9 h9 l9 => hk q9 l9 (by rcases h9 with h9 | h9 <;> exact hw_AWn h9 (by decide) l9))
      have v29 := va_at.kept v29 (hk _ (hw_lt v29) (hw_AWn gx (by decide) (hw_lt v29)))
      have vq := va_at.kept vq (hk _ (hw_lt vq) (hw_AWn (hw_RX_13 Rx) (by decide) (hw_lt vq)))
      have vla := va_at.kept vla (hk _ (hw_lt vla) (hw_AWn (hw_RM_41 Rm) (by decide) (hw_lt vla)))
      have vsz := va_at.kept vsz (hk _ (hw_lt vsz) (hw_AWn (hw_RM_42 Rm) (by decide) (hw_lt vsz)))
      have vth := va_at.kept vth (hk _ (hw_lt vth) (hw_AWn (hw_RM_43 Rm) (by decide) (hw_lt vth)))
      have v30 := va_at.kept v30 (hk _ (hw_lt v30) (hw_AWn (hw_RX_1 Rx) (by decide) (hw_lt v30)))
      refine lv_pop hx hb dL_law_203 rfl ?_
      refine lv_goto (tgt := 1187) hx hb dL_law_204 (by decide) ?_
      refine W.widen (k := k + 20) (n := n + 80) (by first | omega | (show _ ≤ _; omega)) (by first | omega | (show _ ≤ _; omega)) ?_
      exact hk9 _ _ _ ⟨G1, rx, rm, pnx, pcx, ksx, scx, udm, kym, lom, wkm, dkm, x71, smm, fim, bem, rkm, rlm, rwm, clm, dgm, fq, la, sz9, fla, fsz, th, tt, fth, hH, hGe1, wx, wm, gx, gm, Rx, v29, ⟨by first | decide | omega, by first | decide | omega⟩, vq, hRK, Rm, v72, ⟨by first | decide | omega, by first | decide | omega⟩, ⟨by first | decide | omega, by first | decide | omega⟩, ⟨by first | decide | omega, by first | decide | omega⟩, ⟨by first | decide | omega, by first | decide | omega⟩, ⟨by first | decide | omega, by first | decide | omega⟩, ⟨by first | decide | omega, by first | decide | omega⟩, ⟨by first | decide | omega, by first | decide | omega⟩, ⟨by first | decide | omega, by first | decide | omega⟩, ⟨by first | decide | omega, by first | decide | omega⟩, ⟨by first | decide | omega, by first | decide | omega⟩, ⟨by first | decide | omega, by first | decide | omega⟩, ⟨by first | decide | omega, by first | decide | omega⟩, vla, vsz, qsz, hrel, vth, hrt⟩ hS hl
    · have hRK := hw_RK3.kept hRK (fun q9 h9 l9 => hk q9 l9 (by rcases h9 with h9 | h9 <;> exact hw_AWn h9 (by decide) l9))
      have v29 := va_at.kept v29 (hk _ (hw_lt v29) (hw_AWn gx (by decide) (hw_lt v29)))
      have vq := va_at.kept vq (hk _ (hw_lt vq) (hw_AWn (hw_RX_13 Rx) (by decide) (hw_lt vq)))
      have vla := va_at.kept vla (hk _ (hw_lt vla) (hw_AWn (hw_RM_41 Rm) (by decide) (hw_lt vla)))
      have vsz := va_at.kept vsz (hk _ (hw_lt vsz) (hw_AWn (hw_RM_42 Rm) (by decide) (hw_lt vsz)))
      have vth := va_at.kept vth (hk _ (hw_lt vth) (hw_AWn (hw_RM_43 Rm) (by decide) (hw_lt vth)))
      have v30 := va_at.kept v30 (hk _ (hw_lt v30) (hw_AWn (hw_RX_1 Rx) (by decide) (hw_lt v30)))
      refine lv_pop hx hb dL_law_203 rfl ?_
      refine lv_goto (tgt := 1187) hx hb dL_law_204 (by decide) ?_
      refine W.widen (k := k + 20) (n := n + 80) (by first | omega | (show _ ≤ _; omega)) (by first | omega | (show _ ≤ _; omega)) ?_
      exact hk9 _ _ _ ⟨G1, rx, rm, pnx, pcx, ksx, scx, udm, kym, lom, wkm, dkm, x77, smm, fim, bem, rkm, rlm, rwm, clm, dgm, fq, la, sz9, fla, fsz, th, tt, fth, hH, hGe1, wx, wm, gx, gm, Rx, v29, ⟨by first | decide | omega, by first | decide | omega⟩, vq, hRK, Rm, v78, ⟨by first | decide | omega, by first | decide | omega⟩, ⟨by first | decide | omega, by first | decide | omega⟩, ⟨by first | decide | omega, by first | decide | omega⟩, ⟨by first | decide | omega, by first | decide | omega⟩, ⟨by first | decide | omega, by first | decide | omega⟩, ⟨by first | decide | omega, by first | decide | omega⟩, ⟨by first | decide | omega, by first | decide | omega⟩, ⟨by first | decide | omega, by first | decide | omega⟩, ⟨by first | decide | omega, by first | decide | omega⟩, ⟨by first | decide | omega, by first | decide | omega⟩, ⟨by first | decide | omega, by first | decide | omega⟩, ⟨by first | decide | omega, by first | decide | omega⟩, vla, vsz, qsz, hrel, vth, hrt⟩ hS hl

set_option maxHeartbeats 40000000 in
set_option maxRecDepth 100000 in
theorem hw_case207 {p : Program} {e : Env} {s : State} {m : MethodId} {below : List Frame} {meth : Method} {c : Code} (l : Launch) {b L : Nat} {xs : Nat → Int32} {D : hw_D} {G : Nat → Nat} {H : Heap} {locs : List Loc} {x mo k n : Nat} {y3 : Int32} {ls : Array Slot} (hL : L ≤ 384) (hy0 : 0 ≤ y3.toInt ∧ y3.toInt ≤ 384) (hy : y3.toInt + 6 ≤ L) (hkc : k + 20 ≤ 600000) (hnc : n + 80 ≤ 7302250) (hx : p.tables.exec = Jvm.exec) (hb : c.code = code) (hr : meth.sig.returnType = ret) (hml : c.maxLocals = 4) (hown : s.vm.findClass R_law = some m.cls) (hts0 : ∀ w ∈ lw_tbl, w.before #[Value.ref b] s = true) (hts : ∀ w ∈ wsL_law, w.before #[Value.ref b] s = true) (hX : va_X b L xs s s.heap) (hbl : b < s.heap.size) (hlocks : meth.locks = false) (hG0 : G = fun _ => 0) (hK : va_K D.1 vwCl (hw_ty D.2.1) s) (hST : hw_ST D.2.2 G s.heap.size s) (hI : hw_I D G s H x mo) (hS : va_S (hw_AW G [1, 2, 3, 4, 5, 6, 7, 8, 9, 10, 11, 12, 13, 14, 15, 16, 17, 18, 19, 20, 21, 22, 23, 24, 25, 26, 27, 28, 29, 30, 31, 32, 40, 42, 44, 45, 46, 48, 49, 50, 51, 53, 55, 58, 59, 67, 68, 69, 70, 71, 72, 73, 74, 75, 76, 77, 78, 79, 80, 81, 82, 83, 84, 101, 102, 103, 104, 105, 106, 107, 108, 109, 127, 128, 129, 132] s.heap.size) s.heap H locs) (hl : lv_has ls 4 [(3, .int y3), (2, .ref mo), (1, .ref x), (0, .ref b)]) (hk9 : ∀ (H1 : Heap) (locs1 : List Loc) (ls1 : Array Slot), hw_I D G s H1 x mo → va_S (hw_AW G [1, 2, 3, 4, 5, 6, 7, 8, 9, 10, 11, 12, 13, 14, 15, 16, 17, 18, 19, 20, 21, 22, 23, 24, 25, 26, 27, 28, 29, 30, 31, 32, 40, 42, 44, 45, 46, 48, 49, 50, 51, 53, 55, 58, 59, 67, 68, 69, 70, 71, 72, 73, 74, 75, 76, 77, 78, 79, 80, 81, 82, 83, 84, 101, 102, 103, 104, 105, 106, 107, 108, 109, 127, 128, 129, 132] s.heap.size) s.heap H1 locs1 → lv_has ls1 4 [(3, .int y3), (2, .ref mo), (1, .ref x), (0, .ref b)] → W p l e room_1 s m #[Value.ref b] below meth c H1 locs1 (k + 20) (n + 80) (lw_Z below #[Value.ref b] s) (F0 m 1187 ls1 [])) : W p l e room_1 s m #[Value.ref b] below meth c H locs k n (lw_Z below #[Value.ref b] s) (F0 m 207 ls []) := by
  have hH0 : hw_HT D G s.heap := fun a h => absurd (by rw [hG0]) h
  have hbA : ¬ (hw_AW G [1, 2, 3, 4, 5, 6, 7, 8, 9, 10, 11, 12, 13, 14, 15, 16, 17, 18, 19, 20, 21, 22, 23, 24, 25, 26, 27, 28, 29, 30, 31, 32, 40, 42, 44, 45, 46, 48, 49, 50, 51, 53, 55, 58, 59, 67, 68, 69, 70, 71, 72, 73, 74, 75, 76, 77, 78, 79, 80, 81, 82, 83, 84, 101, 102, 103, 104, 105, 106, 107, 108, 109, 127, 128, 129, 132] s.heap.size) b := hw_AWn (k := 0) (by rw [hG0]) (by decide) hbl
  have hLi : (Int32.ofNat L).toInt = (L : Int) := nI_toInt (by omega)
  refine hw_I_elim hI ?_
  intro G1 rx rm pnx pcx ksx scx udm kym lom wkm dkm lnm smm fim bem rkm rlm rwm clm dgm fq la sz9 fla fsz th tt fth hH hGe1 wx wm gx gm Rx vx gsc vq hRK Rm vm gm0 gm1 gm2 gm3 gm4 gm5 gm6 gm7 gm8 gm9 gm10 gm11 vla vsz qsz hrel vth hrt
  have hHs := hH0
  have hz24 := hw_hz24 hrel qsz
  have qq := hRK.q
  refine lv_aload_n hx hb dL_law_207 rfl (lv_at hl 2 rfl) ?_
  obtain ⟨r1, ln_2, cl_3, st_4, en_5, kf_6, lf_7, wf_8, v9, R10, g11, g12, g13, g14⟩ := hH.oT (hw_RX_1 Rx)
  refine hw_cM0 (va_runV (As := []) (rest := []) ⟨hx, hb, hml, hown, hts⟩ (k_X11_erase l D G1 x _ rx pnx pcx ksx scx r1 ln_2 cl_3 st_4 en_5 kf_6 lf_7 wf_8 gx Rx ⟨by first | decide | omega, by first | decide | omega⟩ R10 ⟨by first | decide | omega, by first | decide | omega⟩ ⟨by first | decide | omega, by first | decide | omega⟩ ⟨by first | decide | omega, by first | decide | omega⟩ ⟨by first | decide | omega, by first | decide | omega⟩) (cwV 0 hts gL_law_X11_erase rfl rfl rfl (by decide +kernel) ⟨Nat.le_of_ble_eq_true rfl, Nat.le_of_ble_eq_true rfl⟩) (hw_pV (hw_rc (q := (RX11, TX11, 14)) hK vx rfl) hH hK hST hS (by decide) (hw_hG hGe1) ⟨vx, v9⟩) rfl rfl hl.1 rfl (lv_room (Nat.le_of_ble_eq_true rfl)) dL_law_208 ⟨by show _ ≤ 600000; omega, by show _ ≤ 7302250; omega⟩) hS (hw_AWsub (by decide) hGe1 hS.1) (fun v H locs hp hz hk hS => ?_)
  obtain ⟨x15, x16, rfl, hH, v17, v18, g19, q20⟩ := hp
  have q20i := hw_ieq q20
  have hRK := hw_RK3.kept hRK (fun q9 h9 l9 => hk q9 l9 (by rcases h9 with h9 | h9 <;> exact hw_AWn h9 (by decide) l9))
  have vq := va_at.kept vq (hk _ (hw_lt vq) (hw_AWn (hw_RX_13 Rx) (by decide) (hw_lt vq)))
  have vm := va_at.kept vm (hk _ (hw_lt vm) (hw_AWn gm (by decide) (hw_lt vm)))
  have vla := va_at.kept vla (hk _ (hw_lt vla) (hw_AWn (hw_RM_41 Rm) (by decide) (hw_lt vla)))
  have vsz := va_at.kept vsz (hk _ (hw_lt vsz) (hw_AWn (hw_RM_42 Rm) (by decide) (hw_lt vsz)))
  have vth := va_at.kept vth (hk _ (hw_lt vth) (hw_AWn (hw_RM_43 Rm) (by decide) (hw_lt vth)))
  refine lv_pop hx hb dL_law_211 rfl ?_
  refine lv_aload_n hx hb dL_law_212 rfl (lv_at hl 1 rfl) ?_
  refine hw_cM0 (va_runV (As := []) (rest := []) ⟨hx, hb, hml, hown, hts⟩ (k_X12_erase l D G1 mo _ rm udm kym lom wkm dkm lnm smm fim bem rkm rlm rwm clm dgm gm Rm ⟨by first | decide | omega, by first | decide | omega⟩ ⟨by first | decide | omega, by first | decide | omega⟩ ⟨by first | decide | omega, by first | decide | omega⟩ ⟨by first | decide | omega, by first | decide | omega⟩ ⟨by first | decide | omega, by first | decide | omega⟩ ⟨by first | decide | omega, by first | decide | omega⟩ ⟨by first | decide | omega, by first | decide | omega⟩ ⟨by first | decide | omega, by first | decide | omega⟩ ⟨by first | decide | omega, by first | decide | omega⟩ ⟨by first | decide | omega, by first | decide | omega⟩ ⟨by first | decide | omega, by first | decide | omega⟩ ⟨by first | decide | omega, by first | decide | omega⟩) (cwV 0 hts gL_law_X12_erase rfl rfl rfl (by decide +kernel) ⟨Nat.le_of_ble_eq_true rfl, Nat.le_of_ble_eq_true rfl⟩) (hw_pV (hw_rc (q := (RX12, TX12, 45)) hK vm rfl) hH hK hST hS (by decide) (hw_hG hGe1) vm) rfl rfl hl.1 rfl (lv_room (Nat.le_of_ble_eq_true rfl)) dL_law_213 ⟨by show _ ≤ 600000; omega, by show _ ≤ 7302250; omega⟩) hS (hw_AWsub (by decide) hGe1 hS.1) (fun v H locs hp hz hk hS => ?_)
  obtain ⟨x21, x22, rfl, hH, v23, g24, q25⟩ := hp
  have q25i := hw_ieq q25
  have hRK := hw_RK3.kept hRK (fun q9 h9 l9 => hk q9 l9 (by rcases h9 with h9 | h9 <;> exact hw_AWn h9 (by decide) l9))
  have v17 := va_at.kept v17 (hk _ (hw_lt v17) (hw_AWn gx (by decide) (hw_lt v17)))
  have vq := va_at.kept vq (hk _ (hw_lt vq) (hw_AWn (hw_RX_13 Rx) (by decide) (hw_lt vq)))
  have vla := va_at.kept vla (hk _ (hw_lt vla) (hw_AWn (hw_RM_41 Rm) (by decide) (hw_lt vla)))
  have vsz := va_at.kept vsz (hk _ (hw_lt vsz) (hw_AWn (hw_RM_42 Rm) (by decide) (hw_lt vsz)))
  have vth := va_at.kept vth (hk _ (hw_lt vth) (hw_AWn (hw_RM_43 Rm) (by decide) (hw_lt vth)))
  have v18 := va_at.kept v18 (hk _ (hw_lt v18) (hw_AWn (hw_RX_1 Rx) (by decide) (hw_lt v18)))
  refine lv_pop hx hb dL_law_216 rfl ?_
  refine lv_goto (tgt := 1187) hx hb dL_law_217 (by decide) ?_
  refine W.widen (k := k + 20) (n := n + 80) (by first | omega | (show _ ≤ _; omega)) (by first | omega | (show _ ≤ _; omega)) ?_
  exact hk9 _ _ _ ⟨G1, rx, rm, pnx, pcx, ksx, scx, udm, kym, lom, wkm, dkm, x22, smm, fim, bem, rkm, rlm, rwm, clm, dgm, fq, la, sz9, fla, fsz, th, tt, fth, hH, hGe1, wx, wm, gx, gm, Rx, v17, ⟨by first | decide | omega, by first | decide | omega⟩, vq, hRK, Rm, v23, ⟨by first | decide | omega, by first | decide | omega⟩, ⟨by first | decide | omega, by first | decide | omega⟩, ⟨by first | decide | omega, by first | decide | omega⟩, ⟨by first | decide | omega, by first | decide | omega⟩, ⟨by first | decide | omega, by first | decide | omega⟩, ⟨by first | decide | omega, by first | decide | omega⟩, ⟨by first | decide | omega, by first | decide | omega⟩, ⟨by first | decide | omega, by first | decide | omega⟩, ⟨by first | decide | omega, by first | decide | omega⟩, ⟨by first | decide | omega, by first | decide | omega⟩, ⟨by first | decide | omega, by first | decide | omega⟩, ⟨by first | decide | omega, by first | decide | omega⟩, vla, vsz, qsz, hrel, vth, hrt⟩ hS hl

set_option maxHeartbeats 40000000 in
set_option maxRecDepth 100000 in
theorem hw_case220 {p : Program} {e : Env} {s : State} {m : MethodId} {below : List Frame} {meth : Method} {c : Code} (l : Launch) {b L : Nat} {xs : Nat → Int32} {D : hw_D} {G : Nat → Nat} {H : Heap} {locs : List Loc} {x mo k n : Nat} {y3 : Int32} {ls : Array Slot} (hL : L ≤ 384) (hy0 : 0 ≤ y3.toInt ∧ y3.toInt ≤ 384) (hy : y3.toInt + 6 ≤ L) (hkc : k + 20 ≤ 600000) (hnc : n + 80 ≤ 7302250) (hx : p.tables.exec = Jvm.exec) (hb : c.code = code) (hr : meth.sig.returnType = ret) (hml : c.maxLocals = 4) (hown : s.vm.findClass R_law = some m.cls) (hts0 : ∀ w ∈ lw_tbl, w.before #[Value.ref b] s = true) (hts : ∀ w ∈ wsL_law, w.before #[Value.ref b] s = true) (hX : va_X b L xs s s.heap) (hbl : b < s.heap.size) (hlocks : meth.locks = false) (hG0 : G = fun _ => 0) (hK : va_K D.1 vwCl (hw_ty D.2.1) s) (hST : hw_ST D.2.2 G s.heap.size s) (hI : hw_I D G s H x mo) (hS : va_S (hw_AW G [1, 2, 3, 4, 5, 6, 7, 8, 9, 10, 11, 12, 13, 14, 15, 16, 17, 18, 19, 20, 21, 22, 23, 24, 25, 26, 27, 28, 29, 30, 31, 32, 40, 42, 44, 45, 46, 48, 49, 50, 51, 53, 55, 58, 59, 67, 68, 69, 70, 71, 72, 73, 74, 75, 76, 77, 78, 79, 80, 81, 82, 83, 84, 101, 102, 103, 104, 105, 106, 107, 108, 109, 127, 128, 129, 132] s.heap.size) s.heap H locs) (hl : lv_has ls 4 [(3, .int y3), (2, .ref mo), (1, .ref x), (0, .ref b)]) (hk9 : ∀ (H1 : Heap) (locs1 : List Loc) (ls1 : Array Slot), hw_I D G s H1 x mo → va_S (hw_AW G [1, 2, 3, 4, 5, 6, 7, 8, 9, 10, 11, 12, 13, 14, 15, 16, 17, 18, 19, 20, 21, 22, 23, 24, 25, 26, 27, 28, 29, 30, 31, 32, 40, 42, 44, 45, 46, 48, 49, 50, 51, 53, 55, 58, 59, 67, 68, 69, 70, 71, 72, 73, 74, 75, 76, 77, 78, 79, 80, 81, 82, 83, 84, 101, 102, 103, 104, 105, 106, 107, 108, 109, 127, 128, 129, 132] s.heap.size) s.heap H1 locs1 → lv_has ls1 4 [(3, .int y3), (2, .ref mo), (1, .ref x), (0, .ref b)] → W p l e room_1 s m #[Value.ref b] below meth c H1 locs1 (k + 20) (n + 80) (lw_Z below #[Value.ref b] s) (F0 m 1187 ls1 [])) : W p l e room_1 s m #[Value.ref b] below meth c H locs k n (lw_Z below #[Value.ref b] s) (F0 m 220 ls []) := by
  have hH0 : hw_HT D G s.heap := fun a h => absurd (by rw [hG0]) h
  have hbA : ¬ (hw_AW G [1, 2, 3, 4, 5, 6, 7, 8, 9, 10, 11, 12, 13, 14, 15, 16, 17, 18, 19, 20, 21, 22, 23, 24, 25, 26, 27, 28, 29, 30, 31, 32, 40, 42, 44, 45, 46, 48, 49, 50, 51, 53, 55, 58, 59, 67, 68, 69, 70, 71, 72, 73, 74, 75, 76, 77, 78, 79, 80, 81, 82, 83, 84, 101, 102, 103, 104, 105, 106, 107, 108, 109, 127, 128, 129, 132] s.heap.size) b := hw_AWn (k := 0) (by rw [hG0]) (by decide) hbl
  have hLi : (Int32.ofNat L).toInt = (L : Int) := nI_toInt (by omega)
  refine hw_I_elim hI ?_
  intro G1 rx rm pnx pcx ksx scx udm kym lom wkm dkm lnm smm fim bem rkm rlm rwm clm dgm fq la sz9 fla fsz th tt fth hH hGe1 wx wm gx gm Rx vx gsc vq hRK Rm vm gm0 gm1 gm2 gm3 gm4 gm5 gm6 gm7 gm8 gm9 gm10 gm11 vla vsz qsz hrel vth hrt
  have hHs := hH0
  have hz24 := hw_hz24 hrel qsz
  have qq := hRK.q
  refine lv_aload_n hx hb dL_law_220 rfl (lv_at hl 2 rfl) ?_
  obtain ⟨r1, ln_2, cl_3, st_4, en_5, kf_6, lf_7, wf_8, v9, R10, g11, g12, g13, g14⟩ := hH.oT (hw_RX_1 Rx)
  refine hw_cM0 (va_runV (As := []) (rest := []) ⟨hx, hb, hml, hown, hts⟩ (k_X11_fault l D G1 x _ rx pnx pcx ksx scx r1 ln_2 cl_3 st_4 en_5 kf_6 lf_7 wf_8 gx Rx ⟨by first | decide | omega, by first | decide | omega⟩ R10 ⟨by first | decide | omega, by first | decide | omega⟩ ⟨by first | decide | omega, by first | decide | omega⟩ ⟨by first | decide | omega, by first | decide | omega⟩ ⟨by first | decide | omega, by first | decide | omega⟩) (cwV 0 hts gL_law_X11_fault rfl rfl rfl (by decide +kernel) ⟨Nat.le_of_ble_eq_true rfl, Nat.le_of_ble_eq_true rfl⟩) (hw_pV (hw_rc (q := (RX11, TX11, 14)) hK vx rfl) hH hK hST hS (by decide) (hw_hG hGe1) ⟨vx, v9⟩) rfl rfl hl.1 rfl (lv_room (Nat.le_of_ble_eq_true rfl)) dL_law_221 ⟨by show _ ≤ 600000; omega, by show _ ≤ 7302250; omega⟩) hS (hw_AWsub (by decide) hGe1 hS.1) (fun v H locs hp hz hk hS => ?_)
  rcases hp with ⟨x15, x16, x17, x18, x19, x20, rfl, hH, v21, v22, g23, g24, g25, q26⟩ | ⟨x27, x28, x29, x30, x31, x32, x33, rfl, hH, v34, v35, g36, g37, g38, g39, q40⟩
  · have hRK := hw_RK3.kept hRK (fun q9 h9 l9 => hk q9 l9 (by rcases h9 with h9 | h9 <;> exact hw_AWn h9 (by decide) l9))
    have vq := va_at.kept vq (hk _ (hw_lt vq) (hw_AWn (hw_RX_13 Rx) (by decide) (hw_lt vq)))
    have vm := va_at.kept vm (hk _ (hw_lt vm) (hw_AWn gm (by decide) (hw_lt vm)))
    have vla := va_at.kept vla (hk _ (hw_lt vla) (hw_AWn (hw_RM_41 Rm) (by decide) (hw_lt vla)))
    have vsz := va_at.kept vsz (hk _ (hw_lt vsz) (hw_AWn (hw_RM_42 Rm) (by decide) (hw_lt vsz)))
    have vth := va_at.kept vth (hk _ (hw_lt vth) (hw_AWn (hw_RM_43 Rm) (by decide) (hw_lt vth)))
    refine lv_pop hx hb dL_law_224 rfl ?_
    refine lv_aload_n hx hb dL_law_225 rfl (lv_at hl 1 rfl) ?_
    refine hw_cM0 (va_runV (As := []) (rest := []) ⟨hx, hb, hml, hown, hts⟩ (k_X12_fault l D G1 mo _ rm udm kym lom wkm dkm lnm smm fim bem rkm rlm rwm clm dgm gm Rm ⟨by first | decide | omega, by first | decide | omega⟩ ⟨by first | decide | omega, by first | decide | omega⟩ ⟨by first | decide | omega, by first | decide | omega⟩ ⟨by first | decide | omega, by first | decide | omega⟩ ⟨by first | decide | omega, by first | decide | omega⟩ ⟨by first | decide | omega, by first | decide | omega⟩ ⟨by first | decide | omega, by first | decide | omega⟩ ⟨by first | decide | omega, by first | decide | omega⟩ ⟨by first | decide | omega, by first | decide | omega⟩ ⟨by first | decide | omega, by first | decide | omega⟩ ⟨by first | decide | omega, by first | decide | omega⟩ ⟨by first | decide | omega, by first | decide | omega⟩) (cwV 0 hts gL_law_X12_fault rfl rfl rfl (by decide +kernel) ⟨Nat.le_of_ble_eq_true rfl, Nat.le_of_ble_eq_true rfl⟩) (hw_pV (hw_rc (q := (RX12, TX12, 45)) hK vm rfl) hH hK hST hS (by decide) (hw_hG hGe1) vm) rfl rfl hl.1 rfl (lv_room (Nat.le_of_ble_eq_true rfl)) dL_law_226 ⟨by show _ ≤ 600000; omega, by show _ ≤ 7302250; omega⟩) hS (hw_AWsub (by decide) hGe1 hS.1) (fun v H locs hp hz hk hS => ?_)
    rcases hp with ⟨x41, x42, x43, x44, x45, x46, x47, x48, x49, x50, x51, rfl, hH, v52, g53, g54, g55, g56, g57, g58, g59, g60, g61, q62⟩ | ⟨x63, x64, x65, x66, x67, x68, x69, x70, x71, x72, x73, x74, rfl, hH, v75, g76, g77, g78, g79, g80, g81, g82, g83, g84, g85, q86⟩
    · have hRK := hw_RK3.kept hRK (fun q9 h9 l9 => hk q9 l9 (by rcases h9 with h9 | h9 <;> exact hw_AWn h9 (by decide) l9))
      have v21 := va_at.kept v21 (hk _ (hw_lt v21) (hw_AWn gx (by decide) (hw_lt v21)))
      have vq := va_at.kept vq (hk _ (hw_lt vq) (hw_AWn (hw_RX_13 Rx) (by decide) (hw_lt vq)))
      have vla := va_at.kept vla (hk _ (hw_lt vla) (hw_AWn (hw_RM_41 Rm) (by decide) (hw_lt vla)))
      have vsz := va_at.kept vsz (hk _ (hw_lt vsz) (hw_AWn (hw_RM_42 Rm) (by decide) (hw_lt vsz)))
      have vth := va_at.kept vth (hk _ (hw_lt vth) (hw_AWn (hw_RM_43 Rm) (by decide) (hw_lt vth)))
      have v22 := va_at.kept v22 (hk _ (hw_lt v22) (hw_AWn (hw_RX_1 Rx) (by decide) (hw_lt v22)))
      refine lv_pop hx hb dL_law_229 rfl ?_
      refine lv_goto (tgt := 1187) hx hb dL_law_230 (by decide) ?_
      refine W.widen (k := k + 20) (n := n + 80) (by first | omega | (show _ ≤ _; omega)) (by first | omega | (show _ ≤ _; omega)) ?_
      exact hk9 _ _ _ ⟨G1, rx, rm, pnx, pcx, ksx, scx, udm, x46, x47, x48, x49, lnm, smm, x41, x42, x43, x44, x45, x51, x50, fq, la, sz9, fla, fsz, th, tt, fth, hH, hGe1, wx, wm, gx, gm, Rx, v21, ⟨by first | decide | omega, by first | decide | omega⟩, vq, hRK, Rm, v52, ⟨by first | decide | omega, by first | decide | omega⟩, ⟨by first | decide | omega, by first | decide | omega⟩, ⟨by first | decide | omega, by first | decide | omega⟩, ⟨by first | decide | omega, by first | decide | omega⟩, ⟨by first | decide | omega, by first | decide | omega⟩, ⟨by first | decide | omega, by first | decide | omega⟩, ⟨by first | decide | omega, by first | decide | omega⟩, ⟨by first | decide | omega, by first | decide | omega⟩, ⟨by first | decide | omega, by first | decide | omega⟩, ⟨by first | decide | omega, by first | decide | omega⟩, ⟨by first | decide | omega, by first | decide | omega⟩, ⟨by first | decide | omega, by first | decide | omega⟩, vla, vsz, qsz, hrel, vth, hrt⟩ hS hl
    · have hRK := hw_RK3.kept hRK (fun q9 h9 l9 => hk q9 l9 (by rcases h9 with h9 | h9 <;> exact hw_AWn h9 (by decide) l9))
      have v21 := va_at.kept v21 (hk _ (hw_lt v21) (hw_AWn gx (by decide) (hw_lt v21)))
      have vq := va_at.kept vq (hk _ (hw_lt vq) (hw_AWn (hw_RX_13 Rx) (by decide) (hw_lt vq)))
      have vla := va_at.kept vla (hk _ (hw_lt vla) (hw_AWn (hw_RM_41 Rm) (by decide) (hw_lt vla)))
      have vsz := va_at.kept vsz (hk _ (hw_lt vsz) (hw_AWn (hw_RM_42 Rm) (by decide) (hw_lt vsz)))
      have vth := va_at.kept vth (hk _ (hw_lt vth) (hw_AWn (hw_RM_43 Rm) (by decide) (hw_lt vth)))
      have v22 := va_at.kept v22 (hk _ (hw_lt v22) (hw_AWn (hw_RX_1 Rx) (by decide) (hw_lt v22)))
      refine lv_pop hx hb dL_law_229 rfl ?_
      refine lv_goto (tgt := 1187) hx hb dL_law_230 (by decide) ?_
      refine W.widen (k := k + 20) (n := n + 80) (by first | omega | (show _ ≤ _; omega)) (by first | omega | (show _ ≤ _; omega)) ?_
      exact hk9 _ _ _ ⟨G1, rx, rm, pnx, pcx, ksx, scx, udm, x69, x70, x71, x72, lnm, smm, x64, x65, x66, x67, x68, x74, x73, fq, la, sz9, fla, fsz, th, tt, fth, hH, hGe1, wx, wm, gx, gm, Rx, v21, ⟨by first | decide | omega, by first | decide | omega⟩, vq, hRK, Rm, v75, ⟨by first | decide | omega, by first | decide | omega⟩, ⟨by first | decide | omega, by first | decide | omega⟩, ⟨by first | decide | omega, by first | decide | omega⟩, ⟨by first | decide | omega, by first | decide | omega⟩, ⟨by first | decide | omega, by first | decide | omega⟩, ⟨by first | decide | omega, by first | decide | omega⟩, ⟨by first | decide | omega, by first | decide | omega⟩, ⟨by first | decide | omega, by first | decide | omega⟩, ⟨by first | decide | omega, by first | decide | omega⟩, ⟨by first | decide | omega, by first | decide | omega⟩, ⟨by first | decide | omega, by first | decide | omega⟩, ⟨by first | decide | omega, by first | decide | omega⟩, vla, vsz, qsz, hrel, vth, hrt⟩ hS hl
  · have hRK := hw_RK3.kept hRK (fun q9 h9 l9 => hk q9 l9 (by rcases h9 with h9 | h9 <;> exact hw_AWn h9 (by decide) l9))
    have vq := va_at.kept vq (hk _ (hw_lt vq) (hw_AWn (hw_RX_13 Rx) (by decide) (hw_lt vq)))
    have vm := va_at.kept vm (hk _ (hw_lt vm) (hw_AWn gm (by decide) (hw_lt vm)))
    have vla := va_at.kept vla (hk _ (hw_lt vla) (hw_AWn (hw_RM_41 Rm) (by decide) (hw_lt vla)))
    have vsz := va_at.kept vsz (hk _ (hw_lt vsz) (hw_AWn (hw_RM_42 Rm) (by decide) (hw_lt vsz)))
    have vth := va_at.kept vth (hk _ (hw_lt vth) (hw_AWn (hw_RM_43 Rm) (by decide) (hw_lt vth)))
    refine lv_pop hx hb dL_law_224 rfl ?_
    refine lv_aload_n hx hb dL_law_225 rfl (lv_at hl 1 rfl) ?_
    refine hw_cM0 (va_runV (As := []) (rest := []) ⟨hx, hb, hml, hown, hts⟩ (k_X12_fault l D G1 mo _ rm udm kym lom wkm dkm lnm smm fim bem rkm rlm rwm clm dgm gm Rm ⟨by first | decide | omega, by first | decide | omega⟩ ⟨by first | decide | omega, by first | decide | omega⟩ ⟨by first | decide | omega, by first | decide | omega⟩ ⟨by first | decide | omega, by first | decide | omega⟩ ⟨by first | decide | omega, by first | decide | omega⟩ ⟨by first | decide | omega, by first | decide | omega⟩ ⟨by first | decide | omega, by first | decide | omega⟩ ⟨by first | decide | omega, by first | decide | omega⟩ ⟨by first | decide | omega, by first | decide | omega⟩ ⟨by first | decide | omega, by first | decide | omega⟩ ⟨by first | decide | omega, by first | decide | omega⟩ ⟨by first | decide | omega, by first | decide | omega⟩) (cwV 0 hts gL_law_X12_fault rfl rfl rfl (by decide +kernel) ⟨Nat.le_of_ble_eq_true rfl, Nat.le_of_ble_eq_true rfl⟩) (hw_pV (hw_rc (q := (RX12, TX12, 45)) hK vm rfl) hH hK hST hS (by decide) (hw_hG hGe1) vm) rfl rfl hl.1 rfl (lv_room (Nat.le_of_ble_eq_true rfl)) dL_law_226 ⟨by show _ ≤ 600000; omega, by show _ ≤ 7302250; omega⟩) hS (hw_AWsub (by decide) hGe1 hS.1) (fun v H locs hp hz hk hS => ?_)
    rcases hp with ⟨x87, x88, x89, x90, x91, x92, x93, x94, x95, x96, x97, rfl, hH, v98, g99, g100, g101, g102, g103, g104, g105, g106, g107, q108⟩ | ⟨x109, x110, x111, x112, x113, x114, x115, x116, x117, x118, x119, x120, rfl, hH, v121, g122, g123, g124, g125, g126, g127, g128, g129, g130, g131, q132⟩
    · have hRK := hw_RK3.kept hRK (fun q9 h9 l9 => hk q9 l9 (by rcases h9 with h9 | h9 <;> exact hw_AWn h9 (by decide) l9))
      have v34 := va_at.kept v34 (hk _ (hw_lt v34) (hw_AWn gx (by decide) (hw_lt v34)))
      have vq := va_at.kept vq (hk _ (hw_lt vq) (hw_AWn (hw_RX_13 Rx) (by decide) (hw_lt vq)))
      have vla := va_at.kept vla (hk _ (hw_lt vla) (hw_AWn (hw_RM_41 Rm) (by decide) (hw_lt vla)))
      have vsz := va_at.kept vsz (hk _ (hw_lt vsz) (hw_AWn (hw_RM_42 Rm) (by decide) (hw_lt vsz)))
      have vth := va_at.kept vth (hk _ (hw_lt vth) (hw_AWn (hw_RM_43 Rm) (by decide) (hw_lt vth)))
      have v35 := va_at.kept v35 (hk _ (hw_lt v35) (hw_AWn (hw_RX_1 Rx) (by decide) (hw_lt v35)))
      refine lv_pop hx hb dL_law_229 rfl ?_
      refine lv_goto (tgt := 1187) hx hb dL_law_230 (by decide) ?_
      refine W.widen (k := k + 20) (n := n + 80) (by first | omega | (show _ ≤ _; omega)) (by first | omega | (show _ ≤ _; omega)) ?_
      exact hk9 _ _ _ ⟨G1, rx, rm, pnx, pcx, ksx, scx, udm, x92, x93, x94, x95, lnm, smm, x87, x88, x89, x90, x91, x97, x96, fq, la, sz9, fla, fsz, th, tt, fth, hH, hGe1, wx, wm, gx, gm, Rx, v34, ⟨by first | decide | omega, by first | decide | omega⟩, vq, hRK, Rm, v98, ⟨by first | decide | omega, by first | decide | omega⟩, ⟨by first | decide | omega, by first | decide | omega⟩, ⟨by first | decide | omega, by first | decide | omega⟩, ⟨by first | decide | omega, by first | decide | omega⟩, ⟨by first | decide | omega, by first | decide | omega⟩, ⟨by first | decide | omega, by first | decide | omega⟩, ⟨by first | decide | omega, by first | decide | omega⟩, ⟨by first | decide | omega, by first | decide | omega⟩, ⟨by first | decide | omega, by first | decide | omega⟩, ⟨by first | decide | omega, by first | decide | omega⟩, ⟨by first | decide | omega, by first | decide | omega⟩, ⟨by first | decide | omega, by first | decide | omega⟩, vla, vsz, qsz, hrel, vth, hrt⟩ hS hl
    · have hRK := hw_RK3.kept hRK (fun q9 h9 l9 => hk q9 l9 (by rcases h9 with h9 | h9 <;> exact hw_AWn h9 (by decide) l9))
      have v34 := va_at.kept v34 (hk _ (hw_lt v34) (hw_AWn gx (by decide) (hw_lt v34)))
      have vq := va_at.kept vq (hk _ (hw_lt vq) (hw_AWn (hw_RX_13 Rx) (by decide) (hw_lt vq)))
      have vla := va_at.kept vla (hk _ (hw_lt vla) (hw_AWn (hw_RM_41 Rm) (by decide) (hw_lt vla)))
      have vsz := va_at.kept vsz (hk _ (hw_lt vsz) (hw_AWn (hw_RM_42 Rm) (by decide) (hw_lt vsz)))
      have vth := va_at.kept vth (hk _ (hw_lt vth) (hw_AWn (hw_RM_43 Rm) (by decide) (hw_lt vth)))
      have v35 := va_at.kept v35 (hk _ (hw_lt v35) (hw_AWn (hw_RX_1 Rx) (by decide) (hw_lt v35)))
      refine lv_pop hx hb dL_law_229 rfl ?_
      refine lv_goto (tgt := 1187) hx hb dL_law_230 (by decide) ?_
      refine W.widen (k := k + 20) (n := n + 80) (by first | omega | (show _ ≤ _; omega)) (by first | omega | (show _ ≤ _; omega)) ?_
      exact hk9 _ _ _ ⟨G1, rx, rm, pnx, pcx, ksx, scx, udm, x115, x116, x117, x118, lnm, smm, x110, x111, x112, x113, x114, x120, x119, fq, la, sz9, fla, fsz, th, tt, fth, hH, hGe1, wx, wm, gx, gm, Rx, v34, ⟨by first | decide | omega, by first | decide | omega⟩, vq, hRK, Rm, v121, ⟨by first | decide | omega, by first | decide | omega⟩, ⟨by first | decide | omega, by first | decide | omega⟩, ⟨by first | decide | omega, by first | decide | omega⟩, ⟨by first | decide | omega, by first | decide | omega⟩, ⟨by first | decide | omega, by first | decide | omega⟩, ⟨by first | decide | omega, by first | decide | omega⟩, ⟨by first | decide | omega, by first | decide | omega⟩, ⟨by first | decide | omega, by first | decide | omega⟩, ⟨by first | decide | omega, by first | decide | omega⟩, ⟨by first | decide | omega, by first | decide | omega⟩, ⟨by first | decide | omega, by first | decide | omega⟩, ⟨by first | decide | omega, by first | decide | omega⟩, vla, vsz, qsz, hrel, vth, hrt⟩ hS hl

set_option maxHeartbeats 40000000 in
set_option maxRecDepth 100000 in
theorem hw_case233 {p : Program} {e : Env} {s : State} {m : MethodId} {below : List Frame} {meth : Method} {c : Code} (l : Launch) {b L : Nat} {xs : Nat → Int32} {D : hw_D} {G : Nat → Nat} {H : Heap} {locs : List Loc} {x mo k n : Nat} {y3 : Int32} {ls : Array Slot} (hL : L ≤ 384) (hy0 : 0 ≤ y3.toInt ∧ y3.toInt ≤ 384) (hy : y3.toInt + 6 ≤ L) (hkc : k + 20 ≤ 600000) (hnc : n + 80 ≤ 7302250) (hx : p.tables.exec = Jvm.exec) (hb : c.code = code) (hr : meth.sig.returnType = ret) (hml : c.maxLocals = 4) (hown : s.vm.findClass R_law = some m.cls) (hts0 : ∀ w ∈ lw_tbl, w.before #[Value.ref b] s = true) (hts : ∀ w ∈ wsL_law, w.before #[Value.ref b] s = true) (hX : va_X b L xs s s.heap) (hbl : b < s.heap.size) (hlocks : meth.locks = false) (hG0 : G = fun _ => 0) (hK : va_K D.1 vwCl (hw_ty D.2.1) s) (hST : hw_ST D.2.2 G s.heap.size s) (hI : hw_I D G s H x mo) (hS : va_S (hw_AW G [1, 2, 3, 4, 5, 6, 7, 8, 9, 10, 11, 12, 13, 14, 15, 16, 17, 18, 19, 20, 21, 22, 23, 24, 25, 26, 27, 28, 29, 30, 31, 32, 40, 42, 44, 45, 46, 48, 49, 50, 51, 53, 55, 58, 59, 67, 68, 69, 70, 71, 72, 73, 74, 75, 76, 77, 78, 79, 80, 81, 82, 83, 84, 101, 102, 103, 104, 105, 106, 107, 108, 109, 127, 128, 129, 132] s.heap.size) s.heap H locs) (hl : lv_has ls 4 [(3, .int y3), (2, .ref mo), (1, .ref x), (0, .ref b)]) (hk9 : ∀ (H1 : Heap) (locs1 : List Loc) (ls1 : Array Slot), hw_I D G s H1 x mo → va_S (hw_AW G [1, 2, 3, 4, 5, 6, 7, 8, 9, 10, 11, 12, 13, 14, 15, 16, 17, 18, 19, 20, 21, 22, 23, 24, 25, 26, 27, 28, 29, 30, 31, 32, 40, 42, 44, 45, 46, 48, 49, 50, 51, 53, 55, 58, 59, 67, 68, 69, 70, 71, 72, 73, 74, 75, 76, 77, 78, 79, 80, 81, 82, 83, 84, 101, 102, 103, 104, 105, 106, 107, 108, 109, 127, 128, 129, 132] s.heap.size) s.heap H1 locs1 → lv_has ls1 4 [(3, .int y3), (2, .ref mo), (1, .ref x), (0, .ref b)] → W p l e room_1 s m #[Value.ref b] below meth c H1 locs1 (k + 20) (n + 80) (lw_Z below #[Value.ref b] s) (F0 m 1187 ls1 [])) : W p l e room_1 s m #[Value.ref b] below meth c H locs k n (lw_Z below #[Value.ref b] s) (F0 m 233 ls []) := by
  have hH0 : hw_HT D G s.heap := fun a h => absurd (by rw [hG0]) h
  have hbA : ¬ (hw_AW G [1, 2, 3, 4, 5, 6, 7, 8, 9, 10, 11, 12, 13, 14, 15, 16, 17, 18, 19, 20, 21, 22, 23, 24, 25, 26, 27, 28, 29, 30, 31, 32, 40, 42, 44, 45, 46, 48, 49, 50, 51, 53, 55, 58, 59, 67, 68, 69, 70, 71, 72, 73, 74, 75, 76, 77, 78, 79, 80, 81, 82, 83, 84, 101, 102, 103, 104, 105, 106, 107, 108, 109, 127, 128, 129, 132] s.heap.size) b := hw_AWn (k := 0) (by rw [hG0]) (by decide) hbl
  have hLi : (Int32.ofNat L).toInt = (L : Int) := nI_toInt (by omega)
  refine hw_I_elim hI ?_
  intro G1 rx rm pnx pcx ksx scx udm kym lom wkm dkm lnm smm fim bem rkm rlm rwm clm dgm fq la sz9 fla fsz th tt fth hH hGe1 wx wm gx gm Rx vx gsc vq hRK Rm vm gm0 gm1 gm2 gm3 gm4 gm5 gm6 gm7 gm8 gm9 gm10 gm11 vla vsz qsz hrel vth hrt
  have hHs := hH0
  have hz24 := hw_hz24 hrel qsz
  have qq := hRK.q
  refine lv_aload_n hx hb dL_law_233 rfl (lv_at hl 2 rfl) ?_
  obtain ⟨r1, ln_2, cl_3, st_4, en_5, kf_6, lf_7, wf_8, v9, R10, g11, g12, g13, g14⟩ := hH.oT (hw_RX_1 Rx)
  have hHo := hH
  have hS0 := hS
  refine hw_cM (va_runV (As := []) (rest := []) ⟨hx, hb, hml, hown, hts⟩ (k_X11_land l D G1 x _ rx pnx pcx ksx scx r1 ln_2 cl_3 st_4 en_5 kf_6 lf_7 wf_8 gx Rx ⟨by first | decide | omega, by first | decide | omega⟩ R10 ⟨by first | decide | omega, by first | decide | omega⟩ ⟨by first | decide | omega, by first | decide | omega⟩ ⟨by first | decide | omega, by first | decide | omega⟩ ⟨by first | decide | omega, by first | decide | omega⟩) (cwV 0 hts gL_law_X11_land rfl rfl rfl (by decide +kernel) ⟨Nat.le_of_ble_eq_true rfl, Nat.le_of_ble_eq_true rfl⟩) (hw_pV (hw_rc (q := (RX11, TX11, 14)) hK vx rfl) hH hK hST hS (by decide) (hw_hG hGe1) ⟨vx, v9⟩) rfl rfl hl.1 rfl (lv_room (Nat.le_of_ble_eq_true rfl)) dL_law_234 ⟨by show _ ≤ 600000; omega, by show _ ≤ 7302250; omega⟩) hS (hw_AWsub (by decide) hGe1 hS.1) (fun v H locs hp hz hk hS => ?_)
  rcases hp with ⟨x18, x19, x20, x21, x22, x23, x24, x25, x26, x27, G28, rfl, hH, i29, v30, v31, g32, g33, g34, g35, g36⟩ | ⟨x37, x38, x39, x40, x41, x42, x43, x44, x45, x46, x47, G48, rfl, hH, i49, v50, v51, g52, g53, g54, g55, g56, q57⟩
  · have vq := va_at.kept vq (hk _ (hw_lt vq) (hw_AWn (hw_RX_13 Rx) (by decide) (hw_lt vq)))
    have vm := va_at.kept vm (hk _ (hw_lt vm) (hw_AWn gm (by decide) (hw_lt vm)))
    have vla := va_at.kept vla (hk _ (hw_lt vla) (hw_AWn (hw_RM_41 Rm) (by decide) (hw_lt vla)))
    have vsz := va_at.kept vsz (hk _ (hw_lt vsz) (hw_AWn (hw_RM_42 Rm) (by decide) (hw_lt vsz)))
    have vth := va_at.kept vth (hk _ (hw_lt vth) (hw_AWn (hw_RM_43 Rm) (by decide) (hw_lt vth)))
    have m58 : ∀ a, G1 a ≠ 0 → G1 a < 100 → G28 a = G1 a := fun a h0 _ => i29 a (hHo.lt h0)
    have g59 : ∀ x, x < s.heap.size → G28 x = G x := fun x h9 => (i29 x (Nat.lt_of_lt_of_le h9 hS0.1)).trans (hGe1 x h9)
    have hRK := hw_RK3.grow (hRK.kept (fun q9 h9 l9 => hk q9 l9 (by rcases h9 with h9 | h9 <;> exact hw_AWn h9 (by decide) l9))) (fun _ _ => rfl) m58
    have k60 := hw_kg m58 gm (by decide) (by decide)
    have k61 := hw_kg m58 gx (by decide) (by decide)
    have R62 := hw_RX_mono m58 Rx
    have k63 := hw_kg m58 (hw_RX_13 Rx) (by decide) (by decide)
    have q64 := hw_qn m58 qq (by decide) (by decide)
    have R65 := hw_RM_mono m58 Rm
    have k66 := hw_kg m58 (hw_RM_41 Rm) (by decide) (by decide)
    have k67 := hw_kg m58 (hw_RM_42 Rm) (by decide) (by decide)
    have k68 := hw_kg m58 (hw_RM_43 Rm) (by decide) (by decide)
    have k69 := hw_kg m58 (hw_RX_1 Rx) (by decide) (by decide)
    have R70 := hw_RT_mono m58 R10
    refine lv_pop hx hb dL_law_237 rfl ?_
    refine lv_aload_n hx hb dL_law_238 rfl (lv_at hl 1 rfl) ?_
    refine hw_cM0 (va_runV (As := []) (rest := []) ⟨hx, hb, hml, hown, hts⟩ (k_X12_land l D G28 mo _ rm udm kym lom wkm dkm lnm smm fim bem rkm rlm rwm clm dgm k60 R65 ⟨by first | decide | omega, by first | decide | omega⟩ ⟨by first | decide | omega, by first | decide | omega⟩ ⟨by first | decide | omega, by first | decide | omega⟩ ⟨by first | decide | omega, by first | decide | omega⟩ ⟨by first | decide | omega, by first | decide | omega⟩ ⟨by first | decide | omega, by first | decide | omega⟩ ⟨by first | decide | omega, by first | decide | omega⟩ ⟨by first | decide | omega, by first | decide | omega⟩ ⟨by first | decide | omega, by first | decide | omega⟩ ⟨by first | decide | omega, by first | decide | omega⟩ ⟨by first | decide | omega, by first | decide | omega⟩ ⟨by first | decide | omega, by first | decide | omega⟩) (cwV 0 hts gL_law_X12_land rfl rfl rfl (by decide +kernel) ⟨Nat.le_of_ble_eq_true rfl, Nat.le_of_ble_eq_true rfl⟩) (hw_pV (hw_rc (q := (RX12, TX12, 45)) hK vm rfl) hH hK hST hS (by decide) (hw_hG g59) vm) rfl rfl hl.1 rfl (lv_room (Nat.le_of_ble_eq_true rfl)) dL_law_239 ⟨by show _ ≤ 600000; omega, by show _ ≤ 7302250; omega⟩) hS (hw_AWsub (by decide) g59 hS.1) (fun v H locs hp hz hk hS => ?_)
    rcases hp with ⟨x71, x72, x73, x74, x75, x76, x77, x78, x79, x80, x81, x82, x83, x84, rfl, hH, v85, g86, g87, g88, g89, g90, g91, g92, g93, g94, g95, g96, g97⟩ | ⟨x98, x99, x100, x101, x102, x103, x104, x105, x106, x107, x108, x109, x110, x111, x112, rfl, hH, v113, g114, g115, g116, g117, g118, g119, g120, g121, g122, g123, g124, g125, q126⟩
    · have hRK := hw_RK3.kept hRK (fun q9 h9 l9 => hk q9 l9 (by rcases h9 with h9 | h9 <;> exact hw_AWn h9 (by decide) l9))
      have v30 := va_at.kept v30 (hk _ (hw_lt v30) (hw_AWn k61 (by decide) (hw_lt v30)))
      have vq := va_at.kept vq (hk _ (hw_lt vq) (hw_AWn k63 (by decide) (hw_lt vq)))
      have vla := va_at.kept vla (hk _ (hw_lt vla) (hw_AWn k66 (by decide) (hw_lt vla)))
      have vsz := va_at.kept vsz (hk _ (hw_lt vsz) (hw_AWn k67 (by decide) (hw_lt vsz)))
      have vth := va_at.kept vth (hk _ (hw_lt vth) (hw_AWn k68 (by decide) (hw_lt vth)))
      have v31 := va_at.kept v31 (hk _ (hw_lt v31) (hw_AWn k69 (by decide) (hw_lt v31)))
      refine lv_pop hx hb dL_law_242 rfl ?_
      refine lv_goto (tgt := 1187) hx hb dL_law_243 (by decide) ?_
      refine W.widen (k := k + 20) (n := n + 80) (by first | omega | (show _ ≤ _; omega)) (by first | omega | (show _ ≤ _; omega)) ?_
      exact hk9 _ _ _ ⟨G28, rx, rm, pnx, x18, x19, x20, x83, x76, x77, x78, x79, x82, x84, x71, x72, x73, x74, x75, x81, x80, fq, la, sz9, fla, fsz, th, tt, fth, hH, g59, wx, wm, k61, k60, R62, v30, ⟨by first | decide | omega, by first | decide | omega⟩, vq, hRK, R65, v85, ⟨by first | decide | omega, by first | decide | omega⟩, ⟨by first | decide | omega, by first | decide | omega⟩, ⟨by first | decide | omega, by first | decide | omega⟩, ⟨by first | decide | omega, by first | decide | omega⟩, ⟨by first | decide | omega, by first | decide | omega⟩, ⟨by first | decide | omega, by first | decide | omega⟩, ⟨by first | decide | omega, by first | decide | omega⟩, ⟨by first | decide | omega, by first | decide | omega⟩, ⟨by first | decide | omega, by first | decide | omega⟩, ⟨by first | decide | omega, by first | decide | omega⟩, ⟨by first | decide | omega, by first | decide | omega⟩, ⟨by first | decide | omega, by first | decide | omega⟩, vla, vsz, qsz, hrel, vth, hrt⟩ hS hl
    · have hRK := hw_RK3.kept hRK (fun q9 h9 l9 => hk q9 l9 (by rcases h9 with h9 | h9 <;> exact hw_AWn h9 (by decide) l9))
      have v30 := va_at.kept v30 (hk _ (hw_lt v30) (hw_AWn k61 (by decide) (hw_lt v30)))
      have vq := va_at.kept vq (hk _ (hw_lt vq) (hw_AWn k63 (by decide) (hw_lt vq)))
      have vla := va_at.kept vla (hk _ (hw_lt vla) (hw_AWn k66 (by decide) (hw_lt vla)))
      have vsz := va_at.kept vsz (hk _ (hw_lt vsz) (hw_AWn k67 (by decide) (hw_lt vsz)))
      have vth := va_at.kept vth (hk _ (hw_lt vth) (hw_AWn k68 (by decide) (hw_lt vth)))
      have v31 := va_at.kept v31 (hk _ (hw_lt v31) (hw_AWn k69 (by decide) (hw_lt v31)))
      refine lv_pop hx hb dL_law_242 rfl ?_
      refine lv_goto (tgt := 1187) hx hb dL_law_243 (by decide) ?_
      refine W.widen (k := k + 20) (n := n + 80) (by first | omega | (show _ ≤ _; omega)) (by first | omega | (show _ ≤ _; omega)) ?_
      exact hk9 _ _ _ ⟨G28, rx, rm, pnx, x18, x19, x20, x111, x104, x105, x106, x107, x110, x112, x99, x100, x101, x102, x103, x109, x108, fq, la, sz9, fla, fsz, th, tt, fth, hH, g59, wx, wm, k61, k60, R62, v30, ⟨by first | decide | omega, by first | decide | omega⟩, vq, hRK, R65, v113, ⟨by first | decide | omega, by first | decide | omega⟩, ⟨by first | decide | omega, by first | decide | omega⟩, ⟨by first | decide | omega, by first | decide | omega⟩, ⟨by first | decide | omega, by first | decide | omega⟩, ⟨by first | decide | omega, by first | decide | omega⟩, ⟨by first | decide | omega, by first | decide | omega⟩, ⟨by first | decide | omega, by first | decide | omega⟩, ⟨by first | decide | omega, by first | decide | omega⟩, ⟨by first | decide | omega, by first | decide | omega⟩, ⟨by first | decide | omega, by first | decide | omega⟩, ⟨by first | decide | omega, by first | decide | omega⟩, ⟨by first | decide | omega, by first | decide | omega⟩, vla, vsz, qsz, hrel, vth, hrt⟩ hS hl
  · have vq := va_at.kept vq (hk _ (hw_lt vq) (hw_AWn (hw_RX_13 Rx) (by decide) (hw_lt vq)))
    have vm := va_at.kept vm (hk _ (hw_lt vm) (hw_AWn gm (by decide) (hw_lt vm)))
    have vla := va_at.kept vla (hk _ (hw_lt vla) (hw_AWn (hw_RM_41 Rm) (by decide) (hw_lt vla)))
    have vsz := va_at.kept vsz (hk _ (hw_lt vsz) (hw_AWn (hw_RM_42 Rm) (by decide) (hw_lt vsz)))
    have vth := va_at.kept vth (hk _ (hw_lt vth) (hw_AWn (hw_RM_43 Rm) (by decide) (hw_lt vth)))
    have m127 : ∀ a, G1 a ≠ 0 → G1 a < 100 → G48 a = G1 a := fun a h0 _ => i49 a (hHo.lt h0)
    have g128 : ∀ x, x < s.heap.size → G48 x = G x := fun x h9 => (i49 x (Nat.lt_of_lt_of_le h9 hS0.1)).trans (hGe1 x h9)
    have hRK := hw_RK3.grow (hRK.kept (fun q9 h9 l9 => hk q9 l9 (by rcases h9 with h9 | h9 <;> exact hw_AWn h9 (by decide) l9))) (fun _ _ => rfl) m127
    have k129 := hw_kg m127 gm (by decide) (by decide)
    have k130 := hw_kg m127 gx (by decide) (by decide)
    have R131 := hw_RX_mono m127 Rx
    have k132 := hw_kg m127 (hw_RX_13 Rx) (by decide) (by decide)
    have q133 := hw_qn m127 qq (by decide) (by decide)
    have R134 := hw_RM_mono m127 Rm
    have k135 := hw_kg m127 (hw_RM_41 Rm) (by decide) (by decide)
    have k136 := hw_kg m127 (hw_RM_42 Rm) (by decide) (by decide)
    have k137 := hw_kg m127 (hw_RM_43 Rm) (by decide) (by decide)
    have k138 := hw_kg m127 (hw_RX_1 Rx) (by decide) (by decide)
    have R139 := hw_RT_mono m127 R10
    refine lv_pop hx hb dL_law_237 rfl ?_
    refine lv_aload_n hx hb dL_law_238 rfl (lv_at hl 1 rfl) ?_
    refine hw_cM0 (va_runV (As := []) (rest := []) ⟨hx, hb, hml, hown, hts⟩ (k_X12_land l D G48 mo _ rm udm kym lom wkm dkm lnm smm fim bem rkm rlm rwm clm dgm k129 R134 ⟨by first | decide | omega, by first | decide | omega⟩ ⟨by first | decide | omega, by first | decide | omega⟩ ⟨by first | decide | omega, by first | decide | omega⟩ ⟨by first | decide | omega, by first | decide | omega⟩ ⟨by first | decide | omega, by first | decide | omega⟩ ⟨by first | decide | omega, by first | decide | omega⟩ ⟨by first | decide | omega, by first | decide | omega⟩ ⟨by first | decide | omega, by first | decide | omega⟩ ⟨by first | decide | omega, by first | decide | omega⟩ ⟨by first | decide | omega, by first | decide | omega⟩ ⟨by first | decide | omega, by first | decide | omega⟩ ⟨by first | decide | omega, by first | decide | omega⟩) (cwV 0 hts gL_law_X12_land rfl rfl rfl (by decide +kernel) ⟨Nat.le_of_ble_eq_true rfl, Nat.le_of_ble_eq_true rfl⟩) (hw_pV (hw_rc (q := (RX12, TX12, 45)) hK vm rfl) hH hK hST hS (by decide) (hw_hG g128) vm) rfl rfl hl.1 rfl (lv_room (Nat.le_of_ble_eq_true rfl)) dL_law_239 ⟨by show _ ≤ 600000; omega, by show _ ≤ 7302250; omega⟩) hS (hw_AWsub (by decide) g128 hS.1) (fun v H locs hp hz hk hS => ?_)
    rcases hp with ⟨x140, x141, x142, x143, x144, x145, x146, x147, x148, x149, x150, x151, x152, x153, rfl, hH, v154, g155, g156, g157, g158, g159, g160, g161, g162, g163, g164, g165, g166⟩ | ⟨x167, x168, x169, x170, x171, x172, x173, x174, x175, x176, x177, x178, x179, x180, x181, rfl, hH, v182, g183, g184, g185, g186, g187, g188, g189, g190, g191, g192, g193, g194, q195⟩
    · have hRK := hw_RK3.kept hRK (fun q9 h9 l9 => hk q9 l9 (by rcases h9 with h9 | h9 <;> exact hw_AWn h9 (by decide) l9))
      have v50 := va_at.kept v50 (hk _ (hw_lt v50) (hw_AWn k130 (by decide) (hw_lt v50)))
      have vq := va_at.kept vq (hk _ (hw_lt vq) (hw_AWn k132 (by decide) (hw_lt vq)))
      have vla := va_at.kept vla (hk _ (hw_lt vla) (hw_AWn k135 (by decide) (hw_lt vla)))
      have vsz := va_at.kept vsz (hk _ (hw_lt vsz) (hw_AWn k136 (by decide) (hw_lt vsz)))
      have vth := va_at.kept vth (hk _ (hw_lt vth) (hw_AWn k137 (by decide) (hw_lt vth)))
      have v51 := va_at.kept v51 (hk _ (hw_lt v51) (hw_AWn k138 (by decide) (hw_lt v51)))
      refine lv_pop hx hb dL_law_242 rfl ?_
      refine lv_goto (tgt := 1187) hx hb dL_law_243 (by decide) ?_
      refine W.widen (k := k + 20) (n := n + 80) (by first | omega | (show _ ≤ _; omega)) (by first | omega | (show _ ≤ _; omega)) ?_
      exact hk9 _ _ _ ⟨G48, rx, rm, pnx, x38, x39, x40, x152, x145, x146, x147, x148, x151, x153, x140, x141, x142, x143, x144, x150, x149, fq, la, sz9, fla, fsz, th, tt, fth, hH, g128, wx, wm, k130, k129, R131, v50, ⟨by first | decide | omega, by first | decide | omega⟩, vq, hRK, R134, v154, ⟨by first | decide | omega, by first | decide | omega⟩, ⟨by first | decide | omega, by first | decide | omega⟩, ⟨by first | decide | omega, by first | decide | omega⟩, ⟨by first | decide | omega, by first | decide | omega⟩, ⟨by first | decide | omega, by first | decide | omega⟩, ⟨by first | decide | omega, by first | decide | omega⟩, ⟨by first | decide | omega, by first | decide | omega⟩, ⟨by first | decide | omega, by first | decide | omega⟩, ⟨by first | decide | omega, by first | decide | omega⟩, ⟨by first | decide | omega, by first | decide | omega⟩, ⟨by first | decide | omega, by first | decide | omega⟩, ⟨by first | decide | omega, by first | decide | omega⟩, vla, vsz, qsz, hrel, vth, hrt⟩ hS hl
    · have hRK := hw_RK3.kept hRK (fun q9 h9 l9 => hk q9 l9 (by rcases h9 with h9 | h9 <;> exact hw_AWn h9 (by decide) l9))
      have v50 := va_at.kept v50 (hk _ (hw_lt v50) (hw_AWn k130 (by decide) (hw_lt v50)))
      have vq := va_at.kept vq (hk _ (hw_lt vq) (hw_AWn k132 (by decide) (hw_lt vq)))
      have vla := va_at.kept vla (hk _ (hw_lt vla) (hw_AWn k135 (by decide) (hw_lt vla)))
      have vsz := va_at.kept vsz (hk _ (hw_lt vsz) (hw_AWn k136 (by decide) (hw_lt vsz)))
      have vth := va_at.kept vth (hk _ (hw_lt vth) (hw_AWn k137 (by decide) (hw_lt vth)))
      have v51 := va_at.kept v51 (hk _ (hw_lt v51) (hw_AWn k138 (by decide) (hw_lt v51)))
      refine lv_pop hx hb dL_law_242 rfl ?_
      refine lv_goto (tgt := 1187) hx hb dL_law_243 (by decide) ?_
      refine W.widen (k := k + 20) (n := n + 80) (by first | omega | (show _ ≤ _; omega)) (by first | omega | (show _ ≤ _; omega)) ?_
      exact hk9 _ _ _ ⟨G48, rx, rm, pnx, x38, x39, x40, x180, x173, x174, x175, x176, x179, x181, x168, x169, x170, x171, x172, x178, x177, fq, la, sz9, fla, fsz, th, tt, fth, hH, g128, wx, wm, k130, k129, R131, v50, ⟨by first | decide | omega, by first | decide | omega⟩, vq, hRK, R134, v182, ⟨by first | decide | omega, by first | decide | omega⟩, ⟨by first | decide | omega, by first | decide | omega⟩, ⟨by first | decide | omega, by first | decide | omega⟩, ⟨by first | decide | omega, by first | decide | omega⟩, ⟨by first | decide | omega, by first | decide | omega⟩, ⟨by first | decide | omega, by first | decide | omega⟩, ⟨by first | decide | omega, by first | decide | omega⟩, ⟨by first | decide | omega, by first | decide | omega⟩, ⟨by first | decide | omega, by first | decide | omega⟩, ⟨by first | decide | omega, by first | decide | omega⟩, ⟨by first | decide | omega, by first | decide | omega⟩, ⟨by first | decide | omega, by first | decide | omega⟩, vla, vsz, qsz, hrel, vth, hrt⟩ hS hl

set_option maxHeartbeats 40000000 in
set_option maxRecDepth 100000 in
theorem hw_case246 {p : Program} {e : Env} {s : State} {m : MethodId} {below : List Frame} {meth : Method} {c : Code} (l : Launch) {b L : Nat} {xs : Nat → Int32} {D : hw_D} {G : Nat → Nat} {H : Heap} {locs : List Loc} {x mo k n : Nat} {y3 : Int32} {ls : Array Slot} (hL : L ≤ 384) (hy0 : 0 ≤ y3.toInt ∧ y3.toInt ≤ 384) (hy : y3.toInt + 6 ≤ L) (hkc : k + 20 ≤ 600000) (hnc : n + 80 ≤ 7302250) (hx : p.tables.exec = Jvm.exec) (hb : c.code = code) (hr : meth.sig.returnType = ret) (hml : c.maxLocals = 4) (hown : s.vm.findClass R_law = some m.cls) (hts0 : ∀ w ∈ lw_tbl, w.before #[Value.ref b] s = true) (hts : ∀ w ∈ wsL_law, w.before #[Value.ref b] s = true) (hX : va_X b L xs s s.heap) (hbl : b < s.heap.size) (hlocks : meth.locks = false) (hG0 : G = fun _ => 0) (hK : va_K D.1 vwCl (hw_ty D.2.1) s) (hST : hw_ST D.2.2 G s.heap.size s) (hI : hw_I D G s H x mo) (hS : va_S (hw_AW G [1, 2, 3, 4, 5, 6, 7, 8, 9, 10, 11, 12, 13, 14, 15, 16, 17, 18, 19, 20, 21, 22, 23, 24, 25, 26, 27, 28, 29, 30, 31, 32, 40, 42, 44, 45, 46, 48, 49, 50, 51, 53, 55, 58, 59, 67, 68, 69, 70, 71, 72, 73, 74, 75, 76, 77, 78, 79, 80, 81, 82, 83, 84, 101, 102, 103, 104, 105, 106, 107, 108, 109, 127, 128, 129, 132] s.heap.size) s.heap H locs) (hl : lv_has ls 4 [(3, .int y3), (2, .ref mo), (1, .ref x), (0, .ref b)]) (hk9 : ∀ (H1 : Heap) (locs1 : List Loc) (ls1 : Array Slot), hw_I D G s H1 x mo → va_S (hw_AW G [1, 2, 3, 4, 5, 6, 7, 8, 9, 10, 11, 12, 13, 14, 15, 16, 17, 18, 19, 20, 21, 22, 23, 24, 25, 26, 27, 28, 29, 30, 31, 32, 40, 42, 44, 45, 46, 48, 49, 50, 51, 53, 55, 58, 59, 67, 68, 69, 70, 71, 72, 73, 74, 75, 76, 77, 78, 79, 80, 81, 82, 83, 84, 101, 102, 103, 104, 105, 106, 107, 108, 109, 127, 128, 129, 132] s.heap.size) s.heap H1 locs1 → lv_has ls1 4 [(3, .int y3), (2, .ref mo), (1, .ref x), (0, .ref b)] → W p l e room_1 s m #[Value.ref b] below meth c H1 locs1 (k + 20) (n + 80) (lw_Z below #[Value.ref b] s) (F0 m 1187 ls1 [])) : W p l e room_1 s m #[Value.ref b] below meth c H locs k n (lw_Z below #[Value.ref b] s) (F0 m 246 ls []) := by
  have hH0 : hw_HT D G s.heap := fun a h => absurd (by rw [hG0]) h
  have hbA : ¬ (hw_AW G [1, 2, 3, 4, 5, 6, 7, 8, 9, 10, 11, 12, 13, 14, 15, 16, 17, 18, 19, 20, 21, 22, 23, 24, 25, 26, 27, 28, 29, 30, 31, 32, 40, 42, 44, 45, 46, 48, 49, 50, 51, 53, 55, 58, 59, 67, 68, 69, 70, 71, 72, 73, 74, 75, 76, 77, 78, 79, 80, 81, 82, 83, 84, 101, 102, 103, 104, 105, 106, 107, 108, 109, 127, 128, 129, 132] s.heap.size) b := hw_AWn (k := 0) (by rw [hG0]) (by decide) hbl
  have hLi : (Int32.ofNat L).toInt = (L : Int) := nI_toInt (by omega)
  refine hw_I_elim hI ?_
  intro G1 rx rm pnx pcx ksx scx udm kym lom wkm dkm lnm smm fim bem rkm rlm rwm clm dgm fq la sz9 fla fsz th tt fth hH hGe1 wx wm gx gm Rx vx gsc vq hRK Rm vm gm0 gm1 gm2 gm3 gm4 gm5 gm6 gm7 gm8 gm9 gm10 gm11 vla vsz qsz hrel vth hrt
  have hHs := hH0
  have hz24 := hw_hz24 hrel qsz
  have qq := hRK.q
  refine lv_aload_n hx hb dL_law_246 rfl (lv_at hl 2 rfl) ?_
  refine lv_aload_n hx hb dL_law_247 rfl (lv_at hl 3 rfl) ?_
  refine lv_iload_n hx hb dL_law_248 rfl (lv_at hl 0 rfl) ?_
  refine lv_iconst (v := 1) hx hb dL_law_249 (by decide) ?_
  refine lv_iadd hx hb dL_law_250 ?_
  have t1 : (y3 + 1).toInt = y3.toInt + 1 := hw_add rfl rfl (by omega) (by omega)
  refine va_sld hx hb hX hbl hbA hS (hw_in (by omega) (by omega)) dL_law_251 ?_
  refine lv_aload_n hx hb dL_law_252 rfl (lv_at hl 3 rfl) ?_
  refine lv_iload_n hx hb dL_law_253 rfl (lv_at hl 0 rfl) ?_
  refine lv_iconst (v := 2) hx hb dL_law_254 (by decide) ?_
  refine lv_iadd hx hb dL_law_255 ?_
  have t2 : (y3 + 2).toInt = y3.toInt + 2 := hw_add rfl rfl (by omega) (by omega)
  refine va_sld hx hb hX hbl hbA hS (hw_in (by omega) (by omega)) dL_law_256 ?_
  obtain ⟨r3, kc_4, lc_5, wc_6, dk_7, v8, R9, g10, g11, g12⟩ := hH.oC (hw_RX_0 Rx)
  refine hw_cR (va_runV (As := [.int (xs (y3 + 1).toNatClampNeg), .int (xs (y3 + 2).toNatClampNeg)]) (rest := []) ⟨hx, hb, hml, hown, hts⟩ (k_X11_key l D G1 x (xs (y3 + 1).toNatClampNeg) (xs (y3 + 2).toNatClampNeg) _ rx pnx pcx ksx scx r3 kc_4 lc_5 wc_6 dk_7 gx Rx ⟨by first | decide | omega, by first | decide | omega⟩ R9 ⟨by first | decide | omega, by first | decide | omega⟩ ⟨by first | decide | omega, by first | decide | omega⟩ ⟨by first | decide | omega, by first | decide | omega⟩) (cwV 2 hts gL_law_X11_key rfl rfl rfl (by decide +kernel) ⟨Nat.le_of_ble_eq_true rfl, Nat.le_of_ble_eq_true rfl⟩) (hw_pV (hw_rc (q := (RX11, TX11, 14)) hK vx rfl) hH hK hST hS (by decide) (hw_hG hGe1) ⟨vx, v8⟩) rfl rfl hl.1 rfl (lv_room (Nat.le_of_ble_eq_true rfl)) dL_law_257 ⟨by show _ ≤ 600000; omega, by show _ ≤ 7302250; omega⟩) (fun v hp => ?_)
  obtain ⟨x13, rfl, q14⟩ := hp
  refine lv_pop hx hb dL_law_260 rfl ?_
  refine lv_aload_n hx hb dL_law_261 rfl (lv_at hl 1 rfl) ?_
  refine lv_aload_n hx hb dL_law_262 rfl (lv_at hl 3 rfl) ?_
  refine lv_iload_n hx hb dL_law_263 rfl (lv_at hl 0 rfl) ?_
  refine lv_iconst (v := 1) hx hb dL_law_264 (by decide) ?_
  refine lv_iadd hx hb dL_law_265 ?_
  refine va_sld hx hb hX hbl hbA hS (hw_in (by omega) (by omega)) dL_law_266 ?_
  refine lv_aload_n hx hb dL_law_267 rfl (lv_at hl 3 rfl) ?_
  refine lv_iload_n hx hb dL_law_268 rfl (lv_at hl 0 rfl) ?_
  refine lv_iconst (v := 2) hx hb dL_law_269 (by decide) ?_
  refine lv_iadd hx hb dL_law_270 ?_
  refine va_sld hx hb hX hbl hbA hS (hw_in (by omega) (by omega)) dL_law_271 ?_
  refine hw_cR (va_runV (As := [.int (xs (y3 + 1).toNatClampNeg), .int (xs (y3 + 2).toNatClampNeg)]) (rest := []) ⟨hx, hb, hml, hown, hts⟩ (k_X12_key l D G1 mo (xs (y3 + 1).toNatClampNeg) (xs (y3 + 2).toNatClampNeg) _ rm udm kym lom wkm dkm lnm smm fim bem rkm rlm rwm clm dgm gm Rm ⟨by first | decide | omega, by first | decide | omega⟩ ⟨by first | decide | omega, by first | decide | omega⟩ ⟨by first | decide | omega, by first | decide | omega⟩ ⟨by first | decide | omega, by first | decide | omega⟩ ⟨by first | decide | omega, by first | decide | omega⟩ ⟨by first | decide | omega, by first | decide | omega⟩ ⟨by first | decide | omega, by first | decide | omega⟩ ⟨by first | decide | omega, by first | decide | omega⟩ ⟨by first | decide | omega, by first | decide | omega⟩ ⟨by first | decide | omega, by first | decide | omega⟩ ⟨by first | decide | omega, by first | decide | omega⟩ ⟨by first | decide | omega, by first | decide | omega⟩) (cwV 2 hts gL_law_X12_key rfl rfl rfl (by decide +kernel) ⟨Nat.le_of_ble_eq_true rfl, Nat.le_of_ble_eq_true rfl⟩) (hw_pV (hw_rc (q := (RX12, TX12, 45)) hK vm rfl) hH hK hST hS (by decide) (hw_hG hGe1) vm) rfl rfl hl.1 rfl (lv_room (Nat.le_of_ble_eq_true rfl)) dL_law_272 ⟨by show _ ≤ 600000; omega, by show _ ≤ 7302250; omega⟩) (fun v hp => ?_)
  obtain ⟨x15, rfl, q16⟩ := hp
  refine lv_pop hx hb dL_law_275 rfl ?_
  refine lv_goto (tgt := 1187) hx hb dL_law_276 (by decide) ?_
  refine W.widen (k := k + 20) (n := n + 80) (by first | omega | (show _ ≤ _; omega)) (by first | omega | (show _ ≤ _; omega)) ?_
  exact hk9 _ _ _ ⟨G1, rx, rm, pnx, pcx, ksx, scx, udm, kym, lom, wkm, dkm, lnm, smm, fim, bem, rkm, rlm, rwm, clm, dgm, fq, la, sz9, fla, fsz, th, tt, fth, hH, hGe1, wx, wm, gx, gm, Rx, vx, ⟨by first | decide | omega, by first | decide | omega⟩, vq, hRK, Rm, vm, ⟨by first | decide | omega, by first | decide | omega⟩, ⟨by first | decide | omega, by first | decide | omega⟩, ⟨by first | decide | omega, by first | decide | omega⟩, ⟨by first | decide | omega, by first | decide | omega⟩, ⟨by first | decide | omega, by first | decide | omega⟩, ⟨by first | decide | omega, by first | decide | omega⟩, ⟨by first | decide | omega, by first | decide | omega⟩, ⟨by first | decide | omega, by first | decide | omega⟩, ⟨by first | decide | omega, by first | decide | omega⟩, ⟨by first | decide | omega, by first | decide | omega⟩, ⟨by first | decide | omega, by first | decide | omega⟩, ⟨by first | decide | omega, by first | decide | omega⟩, vla, vsz, qsz, hrel, vth, hrt⟩ hS hl

set_option maxHeartbeats 40000000 in
set_option maxRecDepth 100000 in
theorem hw_case279 {p : Program} {e : Env} {s : State} {m : MethodId} {below : List Frame} {meth : Method} {c : Code} (l : Launch) {b L : Nat} {xs : Nat → Int32} {D : hw_D} {G : Nat → Nat} {H : Heap} {locs : List Loc} {x mo k n : Nat} {y3 : Int32} {ls : Array Slot} (hL : L ≤ 384) (hy0 : 0 ≤ y3.toInt ∧ y3.toInt ≤ 384) (hy : y3.toInt + 6 ≤ L) (hkc : k + 20 ≤ 600000) (hnc : n + 80 ≤ 7302250) (hx : p.tables.exec = Jvm.exec) (hb : c.code = code) (hr : meth.sig.returnType = ret) (hml : c.maxLocals = 4) (hown : s.vm.findClass R_law = some m.cls) (hts0 : ∀ w ∈ lw_tbl, w.before #[Value.ref b] s = true) (hts : ∀ w ∈ wsL_law, w.before #[Value.ref b] s = true) (hX : va_X b L xs s s.heap) (hbl : b < s.heap.size) (hlocks : meth.locks = false) (hG0 : G = fun _ => 0) (hK : va_K D.1 vwCl (hw_ty D.2.1) s) (hST : hw_ST D.2.2 G s.heap.size s) (hI : hw_I D G s H x mo) (hS : va_S (hw_AW G [1, 2, 3, 4, 5, 6, 7, 8, 9, 10, 11, 12, 13, 14, 15, 16, 17, 18, 19, 20, 21, 22, 23, 24, 25, 26, 27, 28, 29, 30, 31, 32, 40, 42, 44, 45, 46, 48, 49, 50, 51, 53, 55, 58, 59, 67, 68, 69, 70, 71, 72, 73, 74, 75, 76, 77, 78, 79, 80, 81, 82, 83, 84, 101, 102, 103, 104, 105, 106, 107, 108, 109, 127, 128, 129, 132] s.heap.size) s.heap H locs) (hl : lv_has ls 4 [(3, .int y3), (2, .ref mo), (1, .ref x), (0, .ref b)]) (hk9 : ∀ (H1 : Heap) (locs1 : List Loc) (ls1 : Array Slot), hw_I D G s H1 x mo → va_S (hw_AW G [1, 2, 3, 4, 5, 6, 7, 8, 9, 10, 11, 12, 13, 14, 15, 16, 17, 18, 19, 20, 21, 22, 23, 24, 25, 26, 27, 28, 29, 30, 31, 32, 40, 42, 44, 45, 46, 48, 49, 50, 51, 53, 55, 58, 59, 67, 68, 69, 70, 71, 72, 73, 74, 75, 76, 77, 78, 79, 80, 81, 82, 83, 84, 101, 102, 103, 104, 105, 106, 107, 108, 109, 127, 128, 129, 132] s.heap.size) s.heap H1 locs1 → lv_has ls1 4 [(3, .int y3), (2, .ref mo), (1, .ref x), (0, .ref b)] → W p l e room_1 s m #[Value.ref b] below meth c H1 locs1 (k + 20) (n + 80) (lw_Z below #[Value.ref b] s) (F0 m 1187 ls1 [])) : W p l e room_1 s m #[Value.ref b] below meth c H locs k n (lw_Z below #[Value.ref b] s) (F0 m 279 ls []) := by
  have hH0 : hw_HT D G s.heap := fun a h => absurd (by rw [hG0]) h
  have hbA : ¬ (hw_AW G [1, 2, 3, 4, 5, 6, 7, 8, 9, 10, 11, 12, 13, 14, 15, 16, 17, 18, 19, 20, 21, 22, 23, 24, 25, 26, 27, 28, 29, 30, 31, 32, 40, 42, 44, 45, 46, 48, 49, 50, 51, 53, 55, 58, 59, 67, 68, 69, 70, 71, 72, 73, 74, 75, 76, 77, 78, 79, 80, 81, 82, 83, 84, 101, 102, 103, 104, 105, 106, 107, 108, 109, 127, 128, 129, 132] s.heap.size) b := hw_AWn (k := 0) (by rw [hG0]) (by decide) hbl
  have hLi : (Int32.ofNat L).toInt = (L : Int) := nI_toInt (by omega)
  refine hw_I_elim hI ?_
  intro G1 rx rm pnx pcx ksx scx udm kym lom wkm dkm lnm smm fim bem rkm rlm rwm clm dgm fq la sz9 fla fsz th tt fth hH hGe1 wx wm gx gm Rx vx gsc vq hRK Rm vm gm0 gm1 gm2 gm3 gm4 gm5 gm6 gm7 gm8 gm9 gm10 gm11 vla vsz qsz hrel vth hrt
  have hHs := hH0
  have hz24 := hw_hz24 hrel qsz
  have qq := hRK.q
  refine lv_aload_n hx hb dL_law_279 rfl (lv_at hl 2 rfl) ?_
  refine lv_aload_n hx hb dL_law_280 rfl (lv_at hl 3 rfl) ?_
  refine lv_iload_n hx hb dL_law_281 rfl (lv_at hl 0 rfl) ?_
  refine lv_iconst (v := 1) hx hb dL_law_282 (by decide) ?_
  refine lv_iadd hx hb dL_law_283 ?_
  have t1 : (y3 + 1).toInt = y3.toInt + 1 := hw_add rfl rfl (by omega) (by omega)
  refine va_sld hx hb hX hbl hbA hS (hw_in (by omega) (by omega)) dL_law_284 ?_
  refine lv_aload_n hx hb dL_law_285 rfl (lv_at hl 3 rfl) ?_
  refine lv_iload_n hx hb dL_law_286 rfl (lv_at hl 0 rfl) ?_
  refine lv_iconst (v := 2) hx hb dL_law_287 (by decide) ?_
  refine lv_iadd hx hb dL_law_288 ?_
  have t2 : (y3 + 2).toInt = y3.toInt + 2 := hw_add rfl rfl (by omega) (by omega)
  refine va_sld hx hb hX hbl hbA hS (hw_in (by omega) (by omega)) dL_law_289 ?_
  obtain ⟨r3, kc_4, lc_5, wc_6, dk_7, v8, R9, g10, g11, g12⟩ := hH.oC (hw_RX_0 Rx)
  refine hw_cR (va_runV (As := [.int (xs (y3 + 1).toNatClampNeg), .int (xs (y3 + 2).toNatClampNeg)]) (rest := []) ⟨hx, hb, hml, hown, hts⟩ (k_X11_lock l D G1 x (xs (y3 + 1).toNatClampNeg) (xs (y3 + 2).toNatClampNeg) _ rx pnx pcx ksx scx r3 kc_4 lc_5 wc_6 dk_7 gx Rx ⟨by first | decide | omega, by first | decide | omega⟩ R9 ⟨by first | decide | omega, by first | decide | omega⟩ ⟨by first | decide | omega, by first | decide | omega⟩ ⟨by first | decide | omega, by first | decide | omega⟩) (cwV 2 hts gL_law_X11_lock rfl rfl rfl (by decide +kernel) ⟨Nat.le_of_ble_eq_true rfl, Nat.le_of_ble_eq_true rfl⟩) (hw_pV (hw_rc (q := (RX11, TX11, 14)) hK vx rfl) hH hK hST hS (by decide) (hw_hG hGe1) ⟨vx, v8⟩) rfl rfl hl.1 rfl (lv_room (Nat.le_of_ble_eq_true rfl)) dL_law_290 ⟨by show _ ≤ 600000; omega, by show _ ≤ 7302250; omega⟩) (fun v hp => ?_)
  obtain ⟨x13, rfl, q14⟩ := hp
  refine lv_pop hx hb dL_law_293 rfl ?_
  refine lv_aload_n hx hb dL_law_294 rfl (lv_at hl 1 rfl) ?_
  refine lv_aload_n hx hb dL_law_295 rfl (lv_at hl 3 rfl) ?_
  refine lv_iload_n hx hb dL_law_296 rfl (lv_at hl 0 rfl) ?_
  refine lv_iconst (v := 1) hx hb dL_law_297 (by decide) ?_
  refine lv_iadd hx hb dL_law_298 ?_
  refine va_sld hx hb hX hbl hbA hS (hw_in (by omega) (by omega)) dL_law_299 ?_
  refine lv_aload_n hx hb dL_law_300 rfl (lv_at hl 3 rfl) ?_
  refine lv_iload_n hx hb dL_law_301 rfl (lv_at hl 0 rfl) ?_
  refine lv_iconst (v := 2) hx hb dL_law_302 (by decide) ?_
  refine lv_iadd hx hb dL_law_303 ?_
  refine va_sld hx hb hX hbl hbA hS (hw_in (by omega) (by omega)) dL_law_304 ?_
  refine hw_cR (va_runV (As := [.int (xs (y3 + 1).toNatClampNeg), .int (xs (y3 + 2).toNatClampNeg)]) (rest := []) ⟨hx, hb, hml, hown, hts⟩ (k_X12_lock l D G1 mo (xs (y3 + 1).toNatClampNeg) (xs (y3 + 2).toNatClampNeg) _ rm udm kym lom wkm dkm lnm smm fim bem rkm rlm rwm clm dgm gm Rm ⟨by first | decide | omega, by first | decide | omega⟩ ⟨by first | decide | omega, by first | decide | omega⟩ ⟨by first | decide | omega, by first | decide | omega⟩ ⟨by first | decide | omega, by first | decide | omega⟩ ⟨by first | decide | omega, by first | decide | omega⟩ ⟨by first | decide | omega, by first | decide | omega⟩ ⟨by first | decide | omega, by first | decide | omega⟩ ⟨by first | decide | omega, by first | decide | omega⟩ ⟨by first | decide | omega, by first | decide | omega⟩ ⟨by first | decide | omega, by first | decide | omega⟩ ⟨by first | decide | omega, by first | decide | omega⟩ ⟨by first | decide | omega, by first | decide | omega⟩) (cwV 2 hts gL_law_X12_lock rfl rfl rfl (by decide +kernel) ⟨Nat.le_of_ble_eq_true rfl, Nat.le_of_ble_eq_true rfl⟩) (hw_pV (hw_rc (q := (RX12, TX12, 45)) hK vm rfl) hH hK hST hS (by decide) (hw_hG hGe1) vm) rfl rfl hl.1 rfl (lv_room (Nat.le_of_ble_eq_true rfl)) dL_law_305 ⟨by show _ ≤ 600000; omega, by show _ ≤ 7302250; omega⟩) (fun v hp => ?_)
  obtain ⟨x15, rfl, q16⟩ := hp
  refine lv_pop hx hb dL_law_308 rfl ?_
  refine lv_goto (tgt := 1187) hx hb dL_law_309 (by decide) ?_
  refine W.widen (k := k + 20) (n := n + 80) (by first | omega | (show _ ≤ _; omega)) (by first | omega | (show _ ≤ _; omega)) ?_
  exact hk9 _ _ _ ⟨G1, rx, rm, pnx, pcx, ksx, scx, udm, kym, lom, wkm, dkm, lnm, smm, fim, bem, rkm, rlm, rwm, clm, dgm, fq, la, sz9, fla, fsz, th, tt, fth, hH, hGe1, wx, wm, gx, gm, Rx, vx, ⟨by first | decide | omega, by first | decide | omega⟩, vq, hRK, Rm, vm, ⟨by first | decide | omega, by first | decide | omega⟩, ⟨by first | decide | omega, by first | decide | omega⟩, ⟨by first | decide | omega, by first | decide | omega⟩, ⟨by first | decide | omega, by first | decide | omega⟩, ⟨by first | decide | omega, by first | decide | omega⟩, ⟨by first | decide | omega, by first | decide | omega⟩, ⟨by first | decide | omega, by first | decide | omega⟩, ⟨by first | decide | omega, by first | decide | omega⟩, ⟨by first | decide | omega, by first | decide | omega⟩, ⟨by first | decide | omega, by first | decide | omega⟩, ⟨by first | decide | omega, by first | decide | omega⟩, ⟨by first | decide | omega, by first | decide | omega⟩, vla, vsz, qsz, hrel, vth, hrt⟩ hS hl

set_option maxHeartbeats 40000000 in
set_option maxRecDepth 100000 in
theorem hw_case312 {p : Program} {e : Env} {s : State} {m : MethodId} {below : List Frame} {meth : Method} {c : Code} (l : Launch) {b L : Nat} {xs : Nat → Int32} {D : hw_D} {G : Nat → Nat} {H : Heap} {locs : List Loc} {x mo k n : Nat} {y3 : Int32} {ls : Array Slot} (hL : L ≤ 384) (hy0 : 0 ≤ y3.toInt ∧ y3.toInt ≤ 384) (hy : y3.toInt + 6 ≤ L) (hkc : k + 20 ≤ 600000) (hnc : n + 80 ≤ 7302250) (hx : p.tables.exec = Jvm.exec) (hb : c.code = code) (hr : meth.sig.returnType = ret) (hml : c.maxLocals = 4) (hown : s.vm.findClass R_law = some m.cls) (hts0 : ∀ w ∈ lw_tbl, w.before #[Value.ref b] s = true) (hts : ∀ w ∈ wsL_law, w.before #[Value.ref b] s = true) (hX : va_X b L xs s s.heap) (hbl : b < s.heap.size) (hlocks : meth.locks = false) (hG0 : G = fun _ => 0) (hK : va_K D.1 vwCl (hw_ty D.2.1) s) (hST : hw_ST D.2.2 G s.heap.size s) (hI : hw_I D G s H x mo) (hS : va_S (hw_AW G [1, 2, 3, 4, 5, 6, 7, 8, 9, 10, 11, 12, 13, 14, 15, 16, 17, 18, 19, 20, 21, 22, 23, 24, 25, 26, 27, 28, 29, 30, 31, 32, 40, 42, 44, 45, 46, 48, 49, 50, 51, 53, 55, 58, 59, 67, 68, 69, 70, 71, 72, 73, 74, 75, 76, 77, 78, 79, 80, 81, 82, 83, 84, 101, 102, 103, 104, 105, 106, 107, 108, 109, 127, 128, 129, 132] s.heap.size) s.heap H locs) (hl : lv_has ls 4 [(3, .int y3), (2, .ref mo), (1, .ref x), (0, .ref b)]) (hk9 : ∀ (H1 : Heap) (locs1 : List Loc) (ls1 : Array Slot), hw_I D G s H1 x mo → va_S (hw_AW G [1, 2, 3, 4, 5, 6, 7, 8, 9, 10, 11, 12, 13, 14, 15, 16, 17, 18, 19, 20, 21, 22, 23, 24, 25, 26, 27, 28, 29, 30, 31, 32, 40, 42, 44, 45, 46, 48, 49, 50, 51, 53, 55, 58, 59, 67, 68, 69, 70, 71, 72, 73, 74, 75, 76, 77, 78, 79, 80, 81, 82, 83, 84, 101, 102, 103, 104, 105, 106, 107, 108, 109, 127, 128, 129, 132] s.heap.size) s.heap H1 locs1 → lv_has ls1 4 [(3, .int y3), (2, .ref mo), (1, .ref x), (0, .ref b)] → W p l e room_1 s m #[Value.ref b] below meth c H1 locs1 (k + 20) (n + 80) (lw_Z below #[Value.ref b] s) (F0 m 1187 ls1 [])) : W p l e room_1 s m #[Value.ref b] below meth c H locs k n (lw_Z below #[Value.ref b] s) (F0 m 312 ls []) := by
  have hH0 : hw_HT D G s.heap := fun a h => absurd (by rw [hG0]) h
  have hbA : ¬ (hw_AW G [1, 2, 3, 4, 5, 6, 7, 8, 9, 10, 11, 12, 13, 14, 15, 16, 17, 18, 19, 20, 21, 22, 23, 24, 25, 26, 27, 28, 29, 30, 31, 32, 40, 42, 44, 45, 46, 48, 49, 50, 51, 53, 55, 58, 59, 67, 68, 69, 70, 71, 72, 73, 74, 75, 76, 77, 78, 79, 80, 81, 82, 83, 84, 101, 102, 103, 104, 105, 106, 107, 108, 109, 127, 128, 129, 132] s.heap.size) b := hw_AWn (k := 0) (by rw [hG0]) (by decide) hbl
  have hLi : (Int32.ofNat L).toInt = (L : Int) := nI_toInt (by omega)
  refine hw_I_elim hI ?_
  intro G1 rx rm pnx pcx ksx scx udm kym lom wkm dkm lnm smm fim bem rkm rlm rwm clm dgm fq la sz9 fla fsz th tt fth hH hGe1 wx wm gx gm Rx vx gsc vq hRK Rm vm gm0 gm1 gm2 gm3 gm4 gm5 gm6 gm7 gm8 gm9 gm10 gm11 vla vsz qsz hrel vth hrt
  have hHs := hH0
  have hz24 := hw_hz24 hrel qsz
  have qq := hRK.q
  refine lv_aload_n hx hb dL_law_312 rfl (lv_at hl 2 rfl) ?_
  refine lv_aload_n hx hb dL_law_313 rfl (lv_at hl 3 rfl) ?_
  refine lv_iload_n hx hb dL_law_314 rfl (lv_at hl 0 rfl) ?_
  refine lv_iconst (v := 1) hx hb dL_law_315 (by decide) ?_
  refine lv_iadd hx hb dL_law_316 ?_
  have t1 : (y3 + 1).toInt = y3.toInt + 1 := hw_add rfl rfl (by omega) (by omega)
  refine va_sld hx hb hX hbl hbA hS (hw_in (by omega) (by omega)) dL_law_317 ?_
  refine lv_aload_n hx hb dL_law_318 rfl (lv_at hl 3 rfl) ?_
  refine lv_iload_n hx hb dL_law_319 rfl (lv_at hl 0 rfl) ?_
  refine lv_iconst (v := 2) hx hb dL_law_320 (by decide) ?_
  refine lv_iadd hx hb dL_law_321 ?_
  have t2 : (y3 + 2).toInt = y3.toInt + 2 := hw_add rfl rfl (by omega) (by omega)
  refine va_sld hx hb hX hbl hbA hS (hw_in (by omega) (by omega)) dL_law_322 ?_
  obtain ⟨r3, kc_4, lc_5, wc_6, dk_7, v8, R9, g10, g11, g12⟩ := hH.oC (hw_RX_0 Rx)
  refine hw_cR (va_runV (As := [.int (xs (y3 + 1).toNatClampNeg), .int (xs (y3 + 2).toNatClampNeg)]) (rest := []) ⟨hx, hb, hml, hown, hts⟩ (k_X11_walker l D G1 x (xs (y3 + 1).toNatClampNeg) (xs (y3 + 2).toNatClampNeg) _ rx pnx pcx ksx scx r3 kc_4 lc_5 wc_6 dk_7 gx Rx ⟨by first | decide | omega, by first | decide | omega⟩ R9 ⟨by first | decide | omega, by first | decide | omega⟩ ⟨by first | decide | omega, by first | decide | omega⟩ ⟨by first | decide | omega, by first | decide | omega⟩) (cwV 2 hts gL_law_X11_walker rfl rfl rfl (by decide +kernel) ⟨Nat.le_of_ble_eq_true rfl, Nat.le_of_ble_eq_true rfl⟩) (hw_pV (hw_rc (q := (RX11, TX11, 14)) hK vx rfl) hH hK hST hS (by decide) (hw_hG hGe1) ⟨vx, v8⟩) rfl rfl hl.1 rfl (lv_room (Nat.le_of_ble_eq_true rfl)) dL_law_323 ⟨by show _ ≤ 600000; omega, by show _ ≤ 7302250; omega⟩) (fun v hp => ?_)
  obtain ⟨x13, rfl, q14⟩ := hp
  refine lv_pop hx hb dL_law_326 rfl ?_
  refine lv_aload_n hx hb dL_law_327 rfl (lv_at hl 1 rfl) ?_
  refine lv_aload_n hx hb dL_law_328 rfl (lv_at hl 3 rfl) ?_
  refine lv_iload_n hx hb dL_law_329 rfl (lv_at hl 0 rfl) ?_
  refine lv_iconst (v := 1) hx hb dL_law_330 (by decide) ?_
  refine lv_iadd hx hb dL_law_331 ?_
  refine va_sld hx hb hX hbl hbA hS (hw_in (by omega) (by omega)) dL_law_332 ?_
  refine lv_aload_n hx hb dL_law_333 rfl (lv_at hl 3 rfl) ?_
  refine lv_iload_n hx hb dL_law_334 rfl (lv_at hl 0 rfl) ?_
  refine lv_iconst (v := 2) hx hb dL_law_335 (by decide) ?_
  refine lv_iadd hx hb dL_law_336 ?_
  refine va_sld hx hb hX hbl hbA hS (hw_in (by omega) (by omega)) dL_law_337 ?_
  refine hw_cR (va_runV (As := [.int (xs (y3 + 1).toNatClampNeg), .int (xs (y3 + 2).toNatClampNeg)]) (rest := []) ⟨hx, hb, hml, hown, hts⟩ (k_X12_walker l D G1 mo (xs (y3 + 1).toNatClampNeg) (xs (y3 + 2).toNatClampNeg) _ rm udm kym lom wkm dkm lnm smm fim bem rkm rlm rwm clm dgm gm Rm ⟨by first | decide | omega, by first | decide | omega⟩ ⟨by first | decide | omega, by first | decide | omega⟩ ⟨by first | decide | omega, by first | decide | omega⟩ ⟨by first | decide | omega, by first | decide | omega⟩ ⟨by first | decide | omega, by first | decide | omega⟩ ⟨by first | decide | omega, by first | decide | omega⟩ ⟨by first | decide | omega, by first | decide | omega⟩ ⟨by first | decide | omega, by first | decide | omega⟩ ⟨by first | decide | omega, by first | decide | omega⟩ ⟨by first | decide | omega, by first | decide | omega⟩ ⟨by first | decide | omega, by first | decide | omega⟩ ⟨by first | decide | omega, by first | decide | omega⟩) (cwV 2 hts gL_law_X12_walker rfl rfl rfl (by decide +kernel) ⟨Nat.le_of_ble_eq_true rfl, Nat.le_of_ble_eq_true rfl⟩) (hw_pV (hw_rc (q := (RX12, TX12, 45)) hK vm rfl) hH hK hST hS (by decide) (hw_hG hGe1) vm) rfl rfl hl.1 rfl (lv_room (Nat.le_of_ble_eq_true rfl)) dL_law_338 ⟨by show _ ≤ 600000; omega, by show _ ≤ 7302250; omega⟩) (fun v hp => ?_)
  obtain ⟨x15, rfl, q16⟩ := hp
  refine lv_pop hx hb dL_law_341 rfl ?_
  refine lv_goto (tgt := 1187) hx hb dL_law_342 (by decide) ?_
  refine W.widen (k := k + 20) (n := n + 80) (by first | omega | (show _ ≤ _; omega)) (by first | omega | (show _ ≤ _; omega)) ?_
  exact hk9 _ _ _ ⟨G1, rx, rm, pnx, pcx, ksx, scx, udm, kym, lom, wkm, dkm, lnm, smm, fim, bem, rkm, rlm, rwm, clm, dgm, fq, la, sz9, fla, fsz, th, tt, fth, hH, hGe1, wx, wm, gx, gm, Rx, vx, ⟨by first | decide | omega, by first | decide | omega⟩, vq, hRK, Rm, vm, ⟨by first | decide | omega, by first | decide | omega⟩, ⟨by first | decide | omega, by first | decide | omega⟩, ⟨by first | decide | omega, by first | decide | omega⟩, ⟨by first | decide | omega, by first | decide | omega⟩, ⟨by first | decide | omega, by first | decide | omega⟩, ⟨by first | decide | omega, by first | decide | omega⟩, ⟨by first | decide | omega, by first | decide | omega⟩, ⟨by first | decide | omega, by first | decide | omega⟩, ⟨by first | decide | omega, by first | decide | omega⟩, ⟨by first | decide | omega, by first | decide | omega⟩, ⟨by first | decide | omega, by first | decide | omega⟩, ⟨by first | decide | omega, by first | decide | omega⟩, vla, vsz, qsz, hrel, vth, hrt⟩ hS hl

set_option maxHeartbeats 40000000 in
set_option maxRecDepth 100000 in
theorem hw_case345 {p : Program} {e : Env} {s : State} {m : MethodId} {below : List Frame} {meth : Method} {c : Code} (l : Launch) {b L : Nat} {xs : Nat → Int32} {D : hw_D} {G : Nat → Nat} {H : Heap} {locs : List Loc} {x mo k n : Nat} {y3 : Int32} {ls : Array Slot} (hL : L ≤ 384) (hy0 : 0 ≤ y3.toInt ∧ y3.toInt ≤ 384) (hy : y3.toInt + 6 ≤ L) (hkc : k + 20 ≤ 600000) (hnc : n + 80 ≤ 7302250) (hx : p.tables.exec = Jvm.exec) (hb : c.code = code) (hr : meth.sig.returnType = ret) (hml : c.maxLocals = 4) (hown : s.vm.findClass R_law = some m.cls) (hts0 : ∀ w ∈ lw_tbl, w.before #[Value.ref b] s = true) (hts : ∀ w ∈ wsL_law, w.before #[Value.ref b] s = true) (hX : va_X b L xs s s.heap) (hbl : b < s.heap.size) (hlocks : meth.locks = false) (hG0 : G = fun _ => 0) (hK : va_K D.1 vwCl (hw_ty D.2.1) s) (hST : hw_ST D.2.2 G s.heap.size s) (hI : hw_I D G s H x mo) (hS : va_S (hw_AW G [1, 2, 3, 4, 5, 6, 7, 8, 9, 10, 11, 12, 13, 14, 15, 16, 17, 18, 19, 20, 21, 22, 23, 24, 25, 26, 27, 28, 29, 30, 31, 32, 40, 42, 44, 45, 46, 48, 49, 50, 51, 53, 55, 58, 59, 67, 68, 69, 70, 71, 72, 73, 74, 75, 76, 77, 78, 79, 80, 81, 82, 83, 84, 101, 102, 103, 104, 105, 106, 107, 108, 109, 127, 128, 129, 132] s.heap.size) s.heap H locs) (hl : lv_has ls 4 [(3, .int y3), (2, .ref mo), (1, .ref x), (0, .ref b)]) (hk9 : ∀ (H1 : Heap) (locs1 : List Loc) (ls1 : Array Slot), hw_I D G s H1 x mo → va_S (hw_AW G [1, 2, 3, 4, 5, 6, 7, 8, 9, 10, 11, 12, 13, 14, 15, 16, 17, 18, 19, 20, 21, 22, 23, 24, 25, 26, 27, 28, 29, 30, 31, 32, 40, 42, 44, 45, 46, 48, 49, 50, 51, 53, 55, 58, 59, 67, 68, 69, 70, 71, 72, 73, 74, 75, 76, 77, 78, 79, 80, 81, 82, 83, 84, 101, 102, 103, 104, 105, 106, 107, 108, 109, 127, 128, 129, 132] s.heap.size) s.heap H1 locs1 → lv_has ls1 4 [(3, .int y3), (2, .ref mo), (1, .ref x), (0, .ref b)] → W p l e room_1 s m #[Value.ref b] below meth c H1 locs1 (k + 20) (n + 80) (lw_Z below #[Value.ref b] s) (F0 m 1187 ls1 [])) : W p l e room_1 s m #[Value.ref b] below meth c H locs k n (lw_Z below #[Value.ref b] s) (F0 m 345 ls []) := by
  have hH0 : hw_HT D G s.heap := fun a h => absurd (by rw [hG0]) h
  have hbA : ¬ (hw_AW G [1, 2, 3, 4, 5, 6, 7, 8, 9, 10, 11, 12, 13, 14, 15, 16, 17, 18, 19, 20, 21, 22, 23, 24, 25, 26, 27, 28, 29, 30, 31, 32, 40, 42, 44, 45, 46, 48, 49, 50, 51, 53, 55, 58, 59, 67, 68, 69, 70, 71, 72, 73, 74, 75, 76, 77, 78, 79, 80, 81, 82, 83, 84, 101, 102, 103, 104, 105, 106, 107, 108, 109, 127, 128, 129, 132] s.heap.size) b := hw_AWn (k := 0) (by rw [hG0]) (by decide) hbl
  have hLi : (Int32.ofNat L).toInt = (L : Int) := nI_toInt (by omega)
  refine hw_I_elim hI ?_
  intro G1 rx rm pnx pcx ksx scx udm kym lom wkm dkm lnm smm fim bem rkm rlm rwm clm dgm fq la sz9 fla fsz th tt fth hH hGe1 wx wm gx gm Rx vx gsc vq hRK Rm vm gm0 gm1 gm2 gm3 gm4 gm5 gm6 gm7 gm8 gm9 gm10 gm11 vla vsz qsz hrel vth hrt
  have hHs := hH0
  have hz24 := hw_hz24 hrel qsz
  have qq := hRK.q
  refine lv_aload_n hx hb dL_law_345 rfl (lv_at hl 2 rfl) ?_
  refine lv_aload_n hx hb dL_law_346 rfl (lv_at hl 3 rfl) ?_
  refine lv_iload_n hx hb dL_law_347 rfl (lv_at hl 0 rfl) ?_
  refine lv_iconst (v := 1) hx hb dL_law_348 (by decide) ?_
  refine lv_iadd hx hb dL_law_349 ?_
  have t1 : (y3 + 1).toInt = y3.toInt + 1 := hw_add rfl rfl (by omega) (by omega)
  refine va_sld hx hb hX hbl hbA hS (hw_in (by omega) (by omega)) dL_law_350 ?_
  refine lv_aload_n hx hb dL_law_351 rfl (lv_at hl 3 rfl) ?_
  refine lv_iload_n hx hb dL_law_352 rfl (lv_at hl 0 rfl) ?_
  refine lv_iconst (v := 2) hx hb dL_law_353 (by decide) ?_
  refine lv_iadd hx hb dL_law_354 ?_
  have t2 : (y3 + 2).toInt = y3.toInt + 2 := hw_add rfl rfl (by omega) (by omega)
  refine va_sld hx hb hX hbl hbA hS (hw_in (by omega) (by omega)) dL_law_355 ?_
  refine lv_aload_n hx hb dL_law_356 rfl (lv_at hl 3 rfl) ?_
  refine lv_iload_n hx hb dL_law_357 rfl (lv_at hl 0 rfl) ?_
  refine lv_iconst (v := 3) hx hb dL_law_358 (by decide) ?_
  refine lv_iadd hx hb dL_law_359 ?_
  have t3 : (y3 + 3).toInt = y3.toInt + 3 := hw_add rfl rfl (by omega) (by omega)
  refine va_sld hx hb hX hbl hbA hS (hw_in (by omega) (by omega)) dL_law_360 ?_
  obtain ⟨r4, kc_5, lc_6, wc_7, dk_8, v9, R10, g11, g12, g13⟩ := hH.oC (hw_RX_0 Rx)
  refine hw_cR (va_runV (As := [.int (xs (y3 + 1).toNatClampNeg), .int (xs (y3 + 2).toNatClampNeg), .int (xs (y3 + 3).toNatClampNeg)]) (rest := []) ⟨hx, hb, hml, hown, hts⟩ (k_X11_goes l D G1 x (xs (y3 + 1).toNatClampNeg) (xs (y3 + 2).toNatClampNeg) (xs (y3 + 3).toNatClampNeg) _ rx pnx pcx ksx scx r4 kc_5 lc_6 wc_7 dk_8 gx Rx ⟨by first | decide | omega, by first | decide | omega⟩ R10 ⟨by first | decide | omega, by first | decide | omega⟩ ⟨by first | decide | omega, by first | decide | omega⟩ ⟨by first | decide | omega, by first | decide | omega⟩) (cwV 3 hts gL_law_X11_goes rfl rfl rfl (by decide +kernel) ⟨Nat.le_of_ble_eq_true rfl, Nat.le_of_ble_eq_true rfl⟩) (hw_pV (hw_rc (q := (RX11, TX11, 14)) hK vx rfl) hH hK hST hS (by decide) (hw_hG hGe1) ⟨vx, v9⟩) rfl rfl hl.1 rfl (lv_room (Nat.le_of_ble_eq_true rfl)) dL_law_361 ⟨by show _ ≤ 600000; omega, by show _ ≤ 7302250; omega⟩) (fun v hp => ?_)
  obtain ⟨x14, rfl, q15⟩ := hp
  refine lv_pop hx hb dL_law_364 rfl ?_
  refine lv_aload_n hx hb dL_law_365 rfl (lv_at hl 1 rfl) ?_
  refine lv_aload_n hx hb dL_law_366 rfl (lv_at hl 3 rfl) ?_
  refine lv_iload_n hx hb dL_law_367 rfl (lv_at hl 0 rfl) ?_
  refine lv_iconst (v := 1) hx hb dL_law_368 (by decide) ?_
  refine lv_iadd hx hb dL_law_369 ?_
  refine va_sld hx hb hX hbl hbA hS (hw_in (by omega) (by omega)) dL_law_370 ?_
  refine lv_aload_n hx hb dL_law_371 rfl (lv_at hl 3 rfl) ?_
  refine lv_iload_n hx hb dL_law_372 rfl (lv_at hl 0 rfl) ?_
  refine lv_iconst (v := 2) hx hb dL_law_373 (by decide) ?_
  refine lv_iadd hx hb dL_law_374 ?_
  refine va_sld hx hb hX hbl hbA hS (hw_in (by omega) (by omega)) dL_law_375 ?_
  refine lv_aload_n hx hb dL_law_376 rfl (lv_at hl 3 rfl) ?_
  refine lv_iload_n hx hb dL_law_377 rfl (lv_at hl 0 rfl) ?_
  refine lv_iconst (v := 3) hx hb dL_law_378 (by decide) ?_
  refine lv_iadd hx hb dL_law_379 ?_
  refine va_sld hx hb hX hbl hbA hS (hw_in (by omega) (by omega)) dL_law_380 ?_
  refine hw_cR (va_runV (As := [.int (xs (y3 + 1).toNatClampNeg), .int (xs (y3 + 2).toNatClampNeg), .int (xs (y3 + 3).toNatClampNeg)]) (rest := []) ⟨hx, hb, hml, hown, hts⟩ (k_X12_goes l D G1 mo (xs (y3 + 1).toNatClampNeg) (xs (y3 + 2).toNatClampNeg) (xs (y3 + 3).toNatClampNeg) _ rm udm kym lom wkm dkm lnm smm fim bem rkm rlm rwm clm dgm gm Rm ⟨by first | decide | omega, by first | decide | omega⟩ ⟨by first | decide | omega, by first | decide | omega⟩ ⟨by first | decide | omega, by first | decide | omega⟩ ⟨by first | decide | omega, by first | decide | omega⟩ ⟨by first | decide | omega, by first | decide | omega⟩ ⟨by first | decide | omega, by first | decide | omega⟩ ⟨by first | decide | omega, by first | decide | omega⟩ ⟨by first | decide | omega, by first | decide | omega⟩ ⟨by first | decide | omega, by first | decide | omega⟩ ⟨by first | decide | omega, by first | decide | omega⟩ ⟨by first | decide | omega, by first | decide | omega⟩ ⟨by first | decide | omega, by first | decide | omega⟩) (cwV 3 hts gL_law_X12_goes rfl rfl rfl (by decide +kernel) ⟨Nat.le_of_ble_eq_true rfl, Nat.le_of_ble_eq_true rfl⟩) (hw_pV (hw_rc (q := (RX12, TX12, 45)) hK vm rfl) hH hK hST hS (by decide) (hw_hG hGe1) vm) rfl rfl hl.1 rfl (lv_room (Nat.le_of_ble_eq_true rfl)) dL_law_381 ⟨by show _ ≤ 600000; omega, by show _ ≤ 7302250; omega⟩) (fun v hp => ?_)
  obtain ⟨x16, rfl, q17⟩ := hp
  refine lv_pop hx hb dL_law_384 rfl ?_
  refine lv_goto (tgt := 1187) hx hb dL_law_385 (by decide) ?_
  refine W.widen (k := k + 20) (n := n + 80) (by first | omega | (show _ ≤ _; omega)) (by first | omega | (show _ ≤ _; omega)) ?_
  exact hk9 _ _ _ ⟨G1, rx, rm, pnx, pcx, ksx, scx, udm, kym, lom, wkm, dkm, lnm, smm, fim, bem, rkm, rlm, rwm, clm, dgm, fq, la, sz9, fla, fsz, th, tt, fth, hH, hGe1, wx, wm, gx, gm, Rx, vx, ⟨by first | decide | omega, by first | decide | omega⟩, vq, hRK, Rm, vm, ⟨by first | decide | omega, by first | decide | omega⟩, ⟨by first | decide | omega, by first | decide | omega⟩, ⟨by first | decide | omega, by first | decide | omega⟩, ⟨by first | decide | omega, by first | decide | omega⟩, ⟨by first | decide | omega, by first | decide | omega⟩, ⟨by first | decide | omega, by first | decide | omega⟩, ⟨by first | decide | omega, by first | decide | omega⟩, ⟨by first | decide | omega, by first | decide | omega⟩, ⟨by first | decide | omega, by first | decide | omega⟩, ⟨by first | decide | omega, by first | decide | omega⟩, ⟨by first | decide | omega, by first | decide | omega⟩, ⟨by first | decide | omega, by first | decide | omega⟩, vla, vsz, qsz, hrel, vth, hrt⟩ hS hl

set_option maxHeartbeats 40000000 in
set_option maxRecDepth 100000 in
theorem hw_case388 {p : Program} {e : Env} {s : State} {m : MethodId} {below : List Frame} {meth : Method} {c : Code} (l : Launch) {b L : Nat} {xs : Nat → Int32} {D : hw_D} {G : Nat → Nat} {H : Heap} {locs : List Loc} {x mo k n : Nat} {y3 : Int32} {ls : Array Slot} (hL : L ≤ 384) (hy0 : 0 ≤ y3.toInt ∧ y3.toInt ≤ 384) (hy : y3.toInt + 6 ≤ L) (hkc : k + 20 ≤ 600000) (hnc : n + 80 ≤ 7302250) (hx : p.tables.exec = Jvm.exec) (hb : c.code = code) (hr : meth.sig.returnType = ret) (hml : c.maxLocals = 4) (hown : s.vm.findClass R_law = some m.cls) (hts0 : ∀ w ∈ lw_tbl, w.before #[Value.ref b] s = true) (hts : ∀ w ∈ wsL_law, w.before #[Value.ref b] s = true) (hX : va_X b L xs s s.heap) (hbl : b < s.heap.size) (hlocks : meth.locks = false) (hG0 : G = fun _ => 0) (hK : va_K D.1 vwCl (hw_ty D.2.1) s) (hST : hw_ST D.2.2 G s.heap.size s) (hI : hw_I D G s H x mo) (hS : va_S (hw_AW G [1, 2, 3, 4, 5, 6, 7, 8, 9, 10, 11, 12, 13, 14, 15, 16, 17, 18, 19, 20, 21, 22, 23, 24, 25, 26, 27, 28, 29, 30, 31, 32, 40, 42, 44, 45, 46, 48, 49, 50, 51, 53, 55, 58, 59, 67, 68, 69, 70, 71, 72, 73, 74, 75, 76, 77, 78, 79, 80, 81, 82, 83, 84, 101, 102, 103, 104, 105, 106, 107, 108, 109, 127, 128, 129, 132] s.heap.size) s.heap H locs) (hl : lv_has ls 4 [(3, .int y3), (2, .ref mo), (1, .ref x), (0, .ref b)]) (hk9 : ∀ (H1 : Heap) (locs1 : List Loc) (ls1 : Array Slot), hw_I D G s H1 x mo → va_S (hw_AW G [1, 2, 3, 4, 5, 6, 7, 8, 9, 10, 11, 12, 13, 14, 15, 16, 17, 18, 19, 20, 21, 22, 23, 24, 25, 26, 27, 28, 29, 30, 31, 32, 40, 42, 44, 45, 46, 48, 49, 50, 51, 53, 55, 58, 59, 67, 68, 69, 70, 71, 72, 73, 74, 75, 76, 77, 78, 79, 80, 81, 82, 83, 84, 101, 102, 103, 104, 105, 106, 107, 108, 109, 127, 128, 129, 132] s.heap.size) s.heap H1 locs1 → lv_has ls1 4 [(3, .int y3), (2, .ref mo), (1, .ref x), (0, .ref b)] → W p l e room_1 s m #[Value.ref b] below meth c H1 locs1 (k + 20) (n + 80) (lw_Z below #[Value.ref b] s) (F0 m 1187 ls1 [])) : W p l e room_1 s m #[Value.ref b] below meth c H locs k n (lw_Z below #[Value.ref b] s) (F0 m 388 ls []) := by
  have hH0 : hw_HT D G s.heap := fun a h => absurd (by rw [hG0]) h
  have hbA : ¬ (hw_AW G [1, 2, 3, 4, 5, 6, 7, 8, 9, 10, 11, 12, 13, 14, 15, 16, 17, 18, 19, 20, 21, 22, 23, 24, 25, 26, 27, 28, 29, 30, 31, 32, 40, 42, 44, 45, 46, 48, 49, 50, 51, 53, 55, 58, 59, 67, 68, 69, 70, 71, 72, 73, 74, 75, 76, 77, 78, 79, 80, 81, 82, 83, 84, 101, 102, 103, 104, 105, 106, 107, 108, 109, 127, 128, 129, 132] s.heap.size) b := hw_AWn (k := 0) (by rw [hG0]) (by decide) hbl
  have hLi : (Int32.ofNat L).toInt = (L : Int) := nI_toInt (by omega)
  refine hw_I_elim hI ?_
  intro G1 rx rm pnx pcx ksx scx udm kym lom wkm dkm lnm smm fim bem rkm rlm rwm clm dgm fq la sz9 fla fsz th tt fth hH hGe1 wx wm gx gm Rx vx gsc vq hRK Rm vm gm0 gm1 gm2 gm3 gm4 gm5 gm6 gm7 gm8 gm9 gm10 gm11 vla vsz qsz hrel vth hrt
  have hHs := hH0
  have hz24 := hw_hz24 hrel qsz
  have qq := hRK.q
  refine lv_aload_n hx hb dL_law_388 rfl (lv_at hl 2 rfl) ?_
  refine lv_aload_n hx hb dL_law_389 rfl (lv_at hl 3 rfl) ?_
  refine lv_iload_n hx hb dL_law_390 rfl (lv_at hl 0 rfl) ?_
  refine lv_iconst (v := 1) hx hb dL_law_391 (by decide) ?_
  refine lv_iadd hx hb dL_law_392 ?_
  have t1 : (y3 + 1).toInt = y3.toInt + 1 := hw_add rfl rfl (by omega) (by omega)
  refine va_sld hx hb hX hbl hbA hS (hw_in (by omega) (by omega)) dL_law_393 ?_
  refine lv_aload_n hx hb dL_law_394 rfl (lv_at hl 3 rfl) ?_
  refine lv_iload_n hx hb dL_law_395 rfl (lv_at hl 0 rfl) ?_
  refine lv_iconst (v := 2) hx hb dL_law_396 (by decide) ?_
  refine lv_iadd hx hb dL_law_397 ?_
  have t2 : (y3 + 2).toInt = y3.toInt + 2 := hw_add rfl rfl (by omega) (by omega)
  refine va_sld hx hb hX hbl hbA hS (hw_in (by omega) (by omega)) dL_law_398 ?_
  obtain ⟨r3, kc_4, lc_5, wc_6, dk_7, v8, R9, g10, g11, g12⟩ := hH.oC (hw_RX_0 Rx)
  refine hw_cR (va_runV (As := [.int (xs (y3 + 1).toNatClampNeg), .int (xs (y3 + 2).toNatClampNeg)]) (rest := []) ⟨hx, hb, hml, hown, hts⟩ (k_X11_as l D G1 x (xs (y3 + 1).toNatClampNeg) (xs (y3 + 2).toNatClampNeg) _ rx pnx pcx ksx scx r3 kc_4 lc_5 wc_6 dk_7 gx Rx ⟨by first | decide | omega, by first | decide | omega⟩ R9 ⟨by first | decide | omega, by first | decide | omega⟩ ⟨by first | decide | omega, by first | decide | omega⟩ ⟨by first | decide | omega, by first | decide | omega⟩) (cwV 2 hts gL_law_X11_as rfl rfl rfl (by decide +kernel) ⟨Nat.le_of_ble_eq_true rfl, Nat.le_of_ble_eq_true rfl⟩) (hw_pV (hw_rc (q := (RX11, TX11, 14)) hK vx rfl) hH hK hST hS (by decide) (hw_hG hGe1) ⟨vx, v8⟩) rfl rfl hl.1 rfl (lv_room (Nat.le_of_ble_eq_true rfl)) dL_law_399 ⟨by show _ ≤ 600000; omega, by show _ ≤ 7302250; omega⟩) (fun v hp => ?_)
  obtain ⟨x13, rfl, q14⟩ := hp
  refine lv_pop hx hb dL_law_402 rfl ?_
  refine lv_aload_n hx hb dL_law_403 rfl (lv_at hl 1 rfl) ?_
  refine lv_aload_n hx hb dL_law_404 rfl (lv_at hl 3 rfl) ?_
  refine lv_iload_n hx hb dL_law_405 rfl (lv_at hl 0 rfl) ?_
  refine lv_iconst (v := 1) hx hb dL_law_406 (by decide) ?_
  refine lv_iadd hx hb dL_law_407 ?_
  refine va_sld hx hb hX hbl hbA hS (hw_in (by omega) (by omega)) dL_law_408 ?_
  refine lv_aload_n hx hb dL_law_409 rfl (lv_at hl 3 rfl) ?_
  refine lv_iload_n hx hb dL_law_410 rfl (lv_at hl 0 rfl) ?_
  refine lv_iconst (v := 2) hx hb dL_law_411 (by decide) ?_
  refine lv_iadd hx hb dL_law_412 ?_
  refine va_sld hx hb hX hbl hbA hS (hw_in (by omega) (by omega)) dL_law_413 ?_
  refine hw_cR (va_runV (As := [.int (xs (y3 + 1).toNatClampNeg), .int (xs (y3 + 2).toNatClampNeg)]) (rest := []) ⟨hx, hb, hml, hown, hts⟩ (k_X12_as l D G1 mo (xs (y3 + 1).toNatClampNeg) (xs (y3 + 2).toNatClampNeg) _ rm udm kym lom wkm dkm lnm smm fim bem rkm rlm rwm clm dgm gm Rm ⟨by first | decide | omega, by first | decide | omega⟩ ⟨by first | decide | omega, by first | decide | omega⟩ ⟨by first | decide | omega, by first | decide | omega⟩ ⟨by first | decide | omega, by first | decide | omega⟩ ⟨by first | decide | omega, by first | decide | omega⟩ ⟨by first | decide | omega, by first | decide | omega⟩ ⟨by first | decide | omega, by first | decide | omega⟩ ⟨by first | decide | omega, by first | decide | omega⟩ ⟨by first | decide | omega, by first | decide | omega⟩ ⟨by first | decide | omega, by first | decide | omega⟩ ⟨by first | decide | omega, by first | decide | omega⟩ ⟨by first | decide | omega, by first | decide | omega⟩) (cwV 2 hts gL_law_X12_as rfl rfl rfl (by decide +kernel) ⟨Nat.le_of_ble_eq_true rfl, Nat.le_of_ble_eq_true rfl⟩) (hw_pV (hw_rc (q := (RX12, TX12, 45)) hK vm rfl) hH hK hST hS (by decide) (hw_hG hGe1) vm) rfl rfl hl.1 rfl (lv_room (Nat.le_of_ble_eq_true rfl)) dL_law_414 ⟨by show _ ≤ 600000; omega, by show _ ≤ 7302250; omega⟩) (fun v hp => ?_)
  obtain ⟨x15, rfl, q16⟩ := hp
  refine lv_pop hx hb dL_law_417 rfl ?_
  refine lv_goto (tgt := 1187) hx hb dL_law_418 (by decide) ?_
  refine W.widen (k := k + 20) (n := n + 80) (by first | omega | (show _ ≤ _; omega)) (by first | omega | (show _ ≤ _; omega)) ?_
  exact hk9 _ _ _ ⟨G1, rx, rm, pnx, pcx, ksx, scx, udm, kym, lom, wkm, dkm, lnm, smm, fim, bem, rkm, rlm, rwm, clm, dgm, fq, la, sz9, fla, fsz, th, tt, fth, hH, hGe1, wx, wm, gx, gm, Rx, vx, ⟨by first | decide | omega, by first | decide | omega⟩, vq, hRK, Rm, vm, ⟨by first | decide | omega, by first | decide | omega⟩, ⟨by first | decide | omega, by first | decide | omega⟩, ⟨by first | decide | omega, by first | decide | omega⟩, ⟨by first | decide | omega, by first | decide | omega⟩, ⟨by first | decide | omega, by first | decide | omega⟩, ⟨by first | decide | omega, by first | decide | omega⟩, ⟨by first | decide | omega, by first | decide | omega⟩, ⟨by first | decide | omega, by first | decide | omega⟩, ⟨by first | decide | omega, by first | decide | omega⟩, ⟨by first | decide | omega, by first | decide | omega⟩, ⟨by first | decide | omega, by first | decide | omega⟩, ⟨by first | decide | omega, by first | decide | omega⟩, vla, vsz, qsz, hrel, vth, hrt⟩ hS hl

set_option maxHeartbeats 40000000 in
set_option maxRecDepth 100000 in
theorem hw_case421 {p : Program} {e : Env} {s : State} {m : MethodId} {below : List Frame} {meth : Method} {c : Code} (l : Launch) {b L : Nat} {xs : Nat → Int32} {D : hw_D} {G : Nat → Nat} {H : Heap} {locs : List Loc} {x mo k n : Nat} {y3 : Int32} {ls : Array Slot} (hL : L ≤ 384) (hy0 : 0 ≤ y3.toInt ∧ y3.toInt ≤ 384) (hy : y3.toInt + 6 ≤ L) (hkc : k + 20 ≤ 600000) (hnc : n + 80 ≤ 7302250) (hx : p.tables.exec = Jvm.exec) (hb : c.code = code) (hr : meth.sig.returnType = ret) (hml : c.maxLocals = 4) (hown : s.vm.findClass R_law = some m.cls) (hts0 : ∀ w ∈ lw_tbl, w.before #[Value.ref b] s = true) (hts : ∀ w ∈ wsL_law, w.before #[Value.ref b] s = true) (hX : va_X b L xs s s.heap) (hbl : b < s.heap.size) (hlocks : meth.locks = false) (hG0 : G = fun _ => 0) (hK : va_K D.1 vwCl (hw_ty D.2.1) s) (hST : hw_ST D.2.2 G s.heap.size s) (hI : hw_I D G s H x mo) (hS : va_S (hw_AW G [1, 2, 3, 4, 5, 6, 7, 8, 9, 10, 11, 12, 13, 14, 15, 16, 17, 18, 19, 20, 21, 22, 23, 24, 25, 26, 27, 28, 29, 30, 31, 32, 40, 42, 44, 45, 46, 48, 49, 50, 51, 53, 55, 58, 59, 67, 68, 69, 70, 71, 72, 73, 74, 75, 76, 77, 78, 79, 80, 81, 82, 83, 84, 101, 102, 103, 104, 105, 106, 107, 108, 109, 127, 128, 129, 132] s.heap.size) s.heap H locs) (hl : lv_has ls 4 [(3, .int y3), (2, .ref mo), (1, .ref x), (0, .ref b)]) (hk9 : ∀ (H1 : Heap) (locs1 : List Loc) (ls1 : Array Slot), hw_I D G s H1 x mo → va_S (hw_AW G [1, 2, 3, 4, 5, 6, 7, 8, 9, 10, 11, 12, 13, 14, 15, 16, 17, 18, 19, 20, 21, 22, 23, 24, 25, 26, 27, 28, 29, 30, 31, 32, 40, 42, 44, 45, 46, 48, 49, 50, 51, 53, 55, 58, 59, 67, 68, 69, 70, 71, 72, 73, 74, 75, 76, 77, 78, 79, 80, 81, 82, 83, 84, 101, 102, 103, 104, 105, 106, 107, 108, 109, 127, 128, 129, 132] s.heap.size) s.heap H1 locs1 → lv_has ls1 4 [(3, .int y3), (2, .ref mo), (1, .ref x), (0, .ref b)] → W p l e room_1 s m #[Value.ref b] below meth c H1 locs1 (k + 20) (n + 80) (lw_Z below #[Value.ref b] s) (F0 m 1187 ls1 [])) : W p l e room_1 s m #[Value.ref b] below meth c H locs k n (lw_Z below #[Value.ref b] s) (F0 m 421 ls []) := by
  have hH0 : hw_HT D G s.heap := fun a h => absurd (by rw [hG0]) h
  have hbA : ¬ (hw_AW G [1, 2, 3, 4, 5, 6, 7, 8, 9, 10, 11, 12, 13, 14, 15, 16, 17, 18, 19, 20, 21, 22, 23, 24, 25, 26, 27, 28, 29, 30, 31, 32, 40, 42, 44, 45, 46, 48, 49, 50, 51, 53, 55, 58, 59, 67, 68, 69, 70, 71, 72, 73, 74, 75, 76, 77, 78, 79, 80, 81, 82, 83, 84, 101, 102, 103, 104, 105, 106, 107, 108, 109, 127, 128, 129, 132] s.heap.size) b := hw_AWn (k := 0) (by rw [hG0]) (by decide) hbl
  have hLi : (Int32.ofNat L).toInt = (L : Int) := nI_toInt (by omega)
  refine hw_I_elim hI ?_
  intro G1 rx rm pnx pcx ksx scx udm kym lom wkm dkm lnm smm fim bem rkm rlm rwm clm dgm fq la sz9 fla fsz th tt fth hH hGe1 wx wm gx gm Rx vx gsc vq hRK Rm vm gm0 gm1 gm2 gm3 gm4 gm5 gm6 gm7 gm8 gm9 gm10 gm11 vla vsz qsz hrel vth hrt
  have hHs := hH0
  have hz24 := hw_hz24 hrel qsz
  have qq := hRK.q
  refine lv_aload_n hx hb dL_law_421 rfl (lv_at hl 2 rfl) ?_
  refine lv_aload_n hx hb dL_law_422 rfl (lv_at hl 3 rfl) ?_
  refine lv_iload_n hx hb dL_law_423 rfl (lv_at hl 0 rfl) ?_
  refine lv_iconst (v := 1) hx hb dL_law_424 (by decide) ?_
  refine lv_iadd hx hb dL_law_425 ?_
  have t1 : (y3 + 1).toInt = y3.toInt + 1 := hw_add rfl rfl (by omega) (by omega)
  refine va_sld hx hb hX hbl hbA hS (hw_in (by omega) (by omega)) dL_law_426 ?_
  refine lv_aload_n hx hb dL_law_427 rfl (lv_at hl 3 rfl) ?_
  refine lv_iload_n hx hb dL_law_428 rfl (lv_at hl 0 rfl) ?_
  refine lv_iconst (v := 2) hx hb dL_law_429 (by decide) ?_
  refine lv_iadd hx hb dL_law_430 ?_
  have t2 : (y3 + 2).toInt = y3.toInt + 2 := hw_add rfl rfl (by omega) (by omega)
  refine va_sld hx hb hX hbl hbA hS (hw_in (by omega) (by omega)) dL_law_431 ?_
  refine lv_aload_n hx hb dL_law_432 rfl (lv_at hl 3 rfl) ?_
  refine lv_iload_n hx hb dL_law_433 rfl (lv_at hl 0 rfl) ?_
  refine lv_iconst (v := 3) hx hb dL_law_434 (by decide) ?_
  refine lv_iadd hx hb dL_law_435 ?_
  have t3 : (y3 + 3).toInt = y3.toInt + 3 := hw_add rfl rfl (by omega) (by omega)
  refine va_sld hx hb hX hbl hbA hS (hw_in (by omega) (by omega)) dL_law_436 ?_
  obtain ⟨r4, kc_5, lc_6, wc_7, dk_8, v9, R10, g11, g12, g13⟩ := hH.oC (hw_RX_0 Rx)
  refine hw_cM0 (va_runV (As := [.int (xs (y3 + 1).toNatClampNeg), .int (xs (y3 + 2).toNatClampNeg), .int (xs (y3 + 3).toNatClampNeg)]) (rest := []) ⟨hx, hb, hml, hown, hts⟩ (k_X11_tries l D G1 x (xs (y3 + 1).toNatClampNeg) (xs (y3 + 2).toNatClampNeg) (xs (y3 + 3).toNatClampNeg) _ rx pnx pcx ksx scx r4 kc_5 lc_6 wc_7 dk_8 gx Rx ⟨by first | decide | omega, by first | decide | omega⟩ R10 ⟨by first | decide | omega, by first | decide | omega⟩ ⟨by first | decide | omega, by first | decide | omega⟩ ⟨by first | decide | omega, by first | decide | omega⟩) (cwV 3 hts gL_law_X11_tries rfl rfl rfl (by decide +kernel) ⟨Nat.le_of_ble_eq_true rfl, Nat.le_of_ble_eq_true rfl⟩) (hw_pV (hw_rc (q := (RX11, TX11, 14)) hK vx rfl) hH hK hST hS (by decide) (hw_hG hGe1) ⟨vx, v9⟩) rfl rfl hl.1 rfl (lv_room (Nat.le_of_ble_eq_true rfl)) dL_law_437 ⟨by show _ ≤ 600000; omega, by show _ ≤ 7302250; omega⟩) hS (hw_AWsub (by decide) hGe1 hS.1) (fun v H locs hp hz hk hS => ?_)
  obtain ⟨x14, x15, x16, rfl, hH, v17, v18, q19⟩ := hp
  have hRK := hw_RK3.kept hRK (fun q9 h9 l9 => hk q9 l9 (by rcases h9 with h9 | h9 <;> exact hw_AWn h9 (by decide) l9))
  have vq := va_at.kept vq (hk _ (hw_lt vq) (hw_AWn (hw_RX_13 Rx) (by decide) (hw_lt vq)))
  have vm := va_at.kept vm (hk _ (hw_lt vm) (hw_AWn gm (by decide) (hw_lt vm)))
  have vla := va_at.kept vla (hk _ (hw_lt vla) (hw_AWn (hw_RM_41 Rm) (by decide) (hw_lt vla)))
  have vsz := va_at.kept vsz (hk _ (hw_lt vsz) (hw_AWn (hw_RM_42 Rm) (by decide) (hw_lt vsz)))
  have vth := va_at.kept vth (hk _ (hw_lt vth) (hw_AWn (hw_RM_43 Rm) (by decide) (hw_lt vth)))
  refine lv_pop hx hb dL_law_440 rfl ?_
  refine lv_aload_n hx hb dL_law_441 rfl (lv_at hl 1 rfl) ?_
  refine lv_aload_n hx hb dL_law_442 rfl (lv_at hl 3 rfl) ?_
  refine lv_iload_n hx hb dL_law_443 rfl (lv_at hl 0 rfl) ?_
  refine lv_iconst (v := 1) hx hb dL_law_444 (by decide) ?_
  refine lv_iadd hx hb dL_law_445 ?_
  refine va_sld hx hb hX hbl hbA hS (hw_in (by omega) (by omega)) dL_law_446 ?_
  refine lv_aload_n hx hb dL_law_447 rfl (lv_at hl 3 rfl) ?_
  refine lv_iload_n hx hb dL_law_448 rfl (lv_at hl 0 rfl) ?_
  refine lv_iconst (v := 2) hx hb dL_law_449 (by decide) ?_
  refine lv_iadd hx hb dL_law_450 ?_
  refine va_sld hx hb hX hbl hbA hS (hw_in (by omega) (by omega)) dL_law_451 ?_
  refine lv_aload_n hx hb dL_law_452 rfl (lv_at hl 3 rfl) ?_
  refine lv_iload_n hx hb dL_law_453 rfl (lv_at hl 0 rfl) ?_
  refine lv_iconst (v := 3) hx hb dL_law_454 (by decide) ?_
  refine lv_iadd hx hb dL_law_455 ?_
  refine va_sld hx hb hX hbl hbA hS (hw_in (by omega) (by omega)) dL_law_456 ?_
  refine hw_cM0 (va_runV (As := [.int (xs (y3 + 1).toNatClampNeg), .int (xs (y3 + 2).toNatClampNeg), .int (xs (y3 + 3).toNatClampNeg)]) (rest := []) ⟨hx, hb, hml, hown, hts⟩ (k_X12_tries l D G1 mo (xs (y3 + 1).toNatClampNeg) (xs (y3 + 2).toNatClampNeg) (xs (y3 + 3).toNatClampNeg) _ rm udm kym lom wkm dkm lnm smm fim bem rkm rlm rwm clm dgm gm Rm ⟨by first | decide | omega, by first | decide | omega⟩ ⟨by first | decide | omega, by first | decide | omega⟩ ⟨by first | decide | omega, by first | decide | omega⟩ ⟨by first | decide | omega, by first | decide | omega⟩ ⟨by first | decide | omega, by first | decide | omega⟩ ⟨by first | decide | omega, by first | decide | omega⟩ ⟨by first | decide | omega, by first | decide | omega⟩ ⟨by first | decide | omega, by first | decide | omega⟩ ⟨by first | decide | omega, by first | decide | omega⟩ ⟨by first | decide | omega, by first | decide | omega⟩ ⟨by first | decide | omega, by first | decide | omega⟩ ⟨by first | decide | omega, by first | decide | omega⟩) (cwV 3 hts gL_law_X12_tries rfl rfl rfl (by decide +kernel) ⟨Nat.le_of_ble_eq_true rfl, Nat.le_of_ble_eq_true rfl⟩) (hw_pV (hw_rc (q := (RX12, TX12, 45)) hK vm rfl) hH hK hST hS (by decide) (hw_hG hGe1) vm) rfl rfl hl.1 rfl (lv_room (Nat.le_of_ble_eq_true rfl)) dL_law_457 ⟨by show _ ≤ 600000; omega, by show _ ≤ 7302250; omega⟩) hS (hw_AWsub (by decide) hGe1 hS.1) (fun v H locs hp hz hk hS => ?_)
  obtain ⟨x20, x21, rfl, hH, v22, g23, q24⟩ := hp
  have hRK := hw_RK3.kept hRK (fun q9 h9 l9 => hk q9 l9 (by rcases h9 with h9 | h9 <;> exact hw_AWn h9 (by decide) l9))
  have v17 := va_at.kept v17 (hk _ (hw_lt v17) (hw_AWn gx (by decide) (hw_lt v17)))
  have vq := va_at.kept vq (hk _ (hw_lt vq) (hw_AWn (hw_RX_13 Rx) (by decide) (hw_lt vq)))
  have vla := va_at.kept vla (hk _ (hw_lt vla) (hw_AWn (hw_RM_41 Rm) (by decide) (hw_lt vla)))
  have vsz := va_at.kept vsz (hk _ (hw_lt vsz) (hw_AWn (hw_RM_42 Rm) (by decide) (hw_lt vsz)))
  have vth := va_at.kept vth (hk _ (hw_lt vth) (hw_AWn (hw_RM_43 Rm) (by decide) (hw_lt vth)))
  have v18 := va_at.kept v18 (hk _ (hw_lt v18) (hw_AWn (hw_RX_0 Rx) (by decide) (hw_lt v18)))
  refine lv_pop hx hb dL_law_460 rfl ?_
  refine lv_goto (tgt := 1187) hx hb dL_law_461 (by decide) ?_
  refine W.widen (k := k + 20) (n := n + 80) (by first | omega | (show _ ≤ _; omega)) (by first | omega | (show _ ≤ _; omega)) ?_
  exact hk9 _ _ _ ⟨G1, rx, rm, x15, x16, ksx, scx, x21, kym, lom, wkm, dkm, lnm, smm, fim, bem, rkm, rlm, rwm, clm, dgm, fq, la, sz9, fla, fsz, th, tt, fth, hH, hGe1, wx, wm, gx, gm, Rx, v17, ⟨by first | decide | omega, by first | decide | omega⟩, vq, hRK, Rm, v22, ⟨by first | decide | omega, by first | decide | omega⟩, ⟨by first | decide | omega, by first | decide | omega⟩, ⟨by first | decide | omega, by first | decide | omega⟩, ⟨by first | decide | omega, by first | decide | omega⟩, ⟨by first | decide | omega, by first | decide | omega⟩, ⟨by first | decide | omega, by first | decide | omega⟩, ⟨by first | decide | omega, by first | decide | omega⟩, ⟨by first | decide | omega, by first | decide | omega⟩, ⟨by first | decide | omega, by first | decide | omega⟩, ⟨by first | decide | omega, by first | decide | omega⟩, ⟨by first | decide | omega, by first | decide | omega⟩, ⟨by first | decide | omega, by first | decide | omega⟩, vla, vsz, qsz, hrel, vth, hrt⟩ hS hl

set_option maxHeartbeats 40000000 in
set_option maxRecDepth 100000 in
theorem hw_case464 {p : Program} {e : Env} {s : State} {m : MethodId} {below : List Frame} {meth : Method} {c : Code} (l : Launch) {b L : Nat} {xs : Nat → Int32} {D : hw_D} {G : Nat → Nat} {H : Heap} {locs : List Loc} {x mo k n : Nat} {y3 : Int32} {ls : Array Slot} (hL : L ≤ 384) (hy0 : 0 ≤ y3.toInt ∧ y3.toInt ≤ 384) (hy : y3.toInt + 6 ≤ L) (hkc : k + 20 ≤ 600000) (hnc : n + 80 ≤ 7302250) (hx : p.tables.exec = Jvm.exec) (hb : c.code = code) (hr : meth.sig.returnType = ret) (hml : c.maxLocals = 4) (hown : s.vm.findClass R_law = some m.cls) (hts0 : ∀ w ∈ lw_tbl, w.before #[Value.ref b] s = true) (hts : ∀ w ∈ wsL_law, w.before #[Value.ref b] s = true) (hX : va_X b L xs s s.heap) (hbl : b < s.heap.size) (hlocks : meth.locks = false) (hG0 : G = fun _ => 0) (hK : va_K D.1 vwCl (hw_ty D.2.1) s) (hST : hw_ST D.2.2 G s.heap.size s) (hI : hw_I D G s H x mo) (hS : va_S (hw_AW G [1, 2, 3, 4, 5, 6, 7, 8, 9, 10, 11, 12, 13, 14, 15, 16, 17, 18, 19, 20, 21, 22, 23, 24, 25, 26, 27, 28, 29, 30, 31, 32, 40, 42, 44, 45, 46, 48, 49, 50, 51, 53, 55, 58, 59, 67, 68, 69, 70, 71, 72, 73, 74, 75, 76, 77, 78, 79, 80, 81, 82, 83, 84, 101, 102, 103, 104, 105, 106, 107, 108, 109, 127, 128, 129, 132] s.heap.size) s.heap H locs) (hl : lv_has ls 4 [(3, .int y3), (2, .ref mo), (1, .ref x), (0, .ref b)]) (hk9 : ∀ (H1 : Heap) (locs1 : List Loc) (ls1 : Array Slot), hw_I D G s H1 x mo → va_S (hw_AW G [1, 2, 3, 4, 5, 6, 7, 8, 9, 10, 11, 12, 13, 14, 15, 16, 17, 18, 19, 20, 21, 22, 23, 24, 25, 26, 27, 28, 29, 30, 31, 32, 40, 42, 44, 45, 46, 48, 49, 50, 51, 53, 55, 58, 59, 67, 68, 69, 70, 71, 72, 73, 74, 75, 76, 77, 78, 79, 80, 81, 82, 83, 84, 101, 102, 103, 104, 105, 106, 107, 108, 109, 127, 128, 129, 132] s.heap.size) s.heap H1 locs1 → lv_has ls1 4 [(3, .int y3), (2, .ref mo), (1, .ref x), (0, .ref b)] → W p l e room_1 s m #[Value.ref b] below meth c H1 locs1 (k + 20) (n + 80) (lw_Z below #[Value.ref b] s) (F0 m 1187 ls1 [])) : W p l e room_1 s m #[Value.ref b] below meth c H locs k n (lw_Z below #[Value.ref b] s) (F0 m 464 ls []) := by
  have hH0 : hw_HT D G s.heap := fun a h => absurd (by rw [hG0]) h
  have hbA : ¬ (hw_AW G [1, 2, 3, 4, 5, 6, 7, 8, 9, 10, 11, 12, 13, 14, 15, 16, 17, 18, 19, 20, 21, 22, 23, 24, 25, 26, 27, 28, 29, 30, 31, 32, 40, 42, 44, 45, 46, 48, 49, 50, 51, 53, 55, 58, 59, 67, 68, 69, 70, 71, 72, 73, 74, 75, 76, 77, 78, 79, 80, 81, 82, 83, 84, 101, 102, 103, 104, 105, 106, 107, 108, 109, 127, 128, 129, 132] s.heap.size) b := hw_AWn (k := 0) (by rw [hG0]) (by decide) hbl
  have hLi : (Int32.ofNat L).toInt = (L : Int) := nI_toInt (by omega)
  refine hw_I_elim hI ?_
  intro G1 rx rm pnx pcx ksx scx udm kym lom wkm dkm lnm smm fim bem rkm rlm rwm clm dgm fq la sz9 fla fsz th tt fth hH hGe1 wx wm gx gm Rx vx gsc vq hRK Rm vm gm0 gm1 gm2 gm3 gm4 gm5 gm6 gm7 gm8 gm9 gm10 gm11 vla vsz qsz hrel vth hrt
  have hHs := hH0
  have hz24 := hw_hz24 hrel qsz
  have qq := hRK.q
  refine lv_aload_n hx hb dL_law_464 rfl (lv_at hl 2 rfl) ?_
  refine lv_aload_n hx hb dL_law_465 rfl (lv_at hl 3 rfl) ?_
  refine lv_iload_n hx hb dL_law_466 rfl (lv_at hl 0 rfl) ?_
  refine lv_iconst (v := 1) hx hb dL_law_467 (by decide) ?_
  refine lv_iadd hx hb dL_law_468 ?_
  have t1 : (y3 + 1).toInt = y3.toInt + 1 := hw_add rfl rfl (by omega) (by omega)
  refine va_sld hx hb hX hbl hbA hS (hw_in (by omega) (by omega)) dL_law_469 ?_
  obtain ⟨r2, kc_3, lc_4, wc_5, dk_6, v7, R8, g9, g10, g11⟩ := hH.oC (hw_RX_0 Rx)
  refine hw_cM0 (va_runV (As := [.int (xs (y3 + 1).toNatClampNeg)]) (rest := []) ⟨hx, hb, hml, hown, hts⟩ (k_X11_shut l D G1 x (xs (y3 + 1).toNatClampNeg) _ rx pnx pcx ksx scx r2 kc_3 lc_4 wc_5 dk_6 gx Rx ⟨by first | decide | omega, by first | decide | omega⟩ R8 ⟨by first | decide | omega, by first | decide | omega⟩ ⟨by first | decide | omega, by first | decide | omega⟩ ⟨by first | decide | omega, by first | decide | omega⟩) (cwV 1 hts gL_law_X11_shut rfl rfl rfl (by decide +kernel) ⟨Nat.le_of_ble_eq_true rfl, Nat.le_of_ble_eq_true rfl⟩) (hw_pV (hw_rc (q := (RX11, TX11, 14)) hK vx rfl) hH hK hST hS (by decide) (hw_hG hGe1) ⟨vx, v7⟩) rfl rfl hl.1 rfl (lv_room (Nat.le_of_ble_eq_true rfl)) dL_law_470 ⟨by show _ ≤ 600000; omega, by show _ ≤ 7302250; omega⟩) hS (hw_AWsub (by decide) hGe1 hS.1) (fun v H locs hp hz hk hS => ?_)
  obtain ⟨x12, x13, x14, rfl, hH, v15, v16, q17⟩ := hp
  have hRK := hw_RK3.kept hRK (fun q9 h9 l9 => hk q9 l9 (by rcases h9 with h9 | h9 <;> exact hw_AWn h9 (by decide) l9))
  have vq := va_at.kept vq (hk _ (hw_lt vq) (hw_AWn (hw_RX_13 Rx) (by decide) (hw_lt vq)))
  have vm := va_at.kept vm (hk _ (hw_lt vm) (hw_AWn gm (by decide) (hw_lt vm)))
  have vla := va_at.kept vla (hk _ (hw_lt vla) (hw_AWn (hw_RM_41 Rm) (by decide) (hw_lt vla)))
  have vsz := va_at.kept vsz (hk _ (hw_lt vsz) (hw_AWn (hw_RM_42 Rm) (by decide) (hw_lt vsz)))
  have vth := va_at.kept vth (hk _ (hw_lt vth) (hw_AWn (hw_RM_43 Rm) (by decide) (hw_lt vth)))
  refine lv_pop hx hb dL_law_473 rfl ?_
  refine lv_aload_n hx hb dL_law_474 rfl (lv_at hl 1 rfl) ?_
  refine lv_aload_n hx hb dL_law_475 rfl (lv_at hl 3 rfl) ?_
  refine lv_iload_n hx hb dL_law_476 rfl (lv_at hl 0 rfl) ?_
  refine lv_iconst (v := 1) hx hb dL_law_477 (by decide) ?_
  refine lv_iadd hx hb dL_law_478 ?_
  refine va_sld hx hb hX hbl hbA hS (hw_in (by omega) (by omega)) dL_law_479 ?_
  refine hw_cM0 (va_runV (As := [.int (xs (y3 + 1).toNatClampNeg)]) (rest := []) ⟨hx, hb, hml, hown, hts⟩ (k_X12_shut l D G1 mo (xs (y3 + 1).toNatClampNeg) _ rm udm kym lom wkm dkm lnm smm fim bem rkm rlm rwm clm dgm gm Rm ⟨by first | decide | omega, by first | decide | omega⟩ ⟨by first | decide | omega, by first | decide | omega⟩ ⟨by first | decide | omega, by first | decide | omega⟩ ⟨by first | decide | omega, by first | decide | omega⟩ ⟨by first | decide | omega, by first | decide | omega⟩ ⟨by first | decide | omega, by first | decide | omega⟩ ⟨by first | decide | omega, by first | decide | omega⟩ ⟨by first | decide | omega, by first | decide | omega⟩ ⟨by first | decide | omega, by first | decide | omega⟩ ⟨by first | decide | omega, by first | decide | omega⟩ ⟨by first | decide | omega, by first | decide | omega⟩ ⟨by first | decide | omega, by first | decide | omega⟩) (cwV 1 hts gL_law_X12_shut rfl rfl rfl (by decide +kernel) ⟨Nat.le_of_ble_eq_true rfl, Nat.le_of_ble_eq_true rfl⟩) (hw_pV (hw_rc (q := (RX12, TX12, 45)) hK vm rfl) hH hK hST hS (by decide) (hw_hG hGe1) vm) rfl rfl hl.1 rfl (lv_room (Nat.le_of_ble_eq_true rfl)) dL_law_480 ⟨by show _ ≤ 600000; omega, by show _ ≤ 7302250; omega⟩) hS (hw_AWsub (by decide) hGe1 hS.1) (fun v H locs hp hz hk hS => ?_)
  obtain ⟨x18, x19, rfl, hH, v20, g21, q22⟩ := hp
  have hRK := hw_RK3.kept hRK (fun q9 h9 l9 => hk q9 l9 (by rcases h9 with h9 | h9 <;> exact hw_AWn h9 (by decide) l9))
  have v15 := va_at.kept v15 (hk _ (hw_lt v15) (hw_AWn gx (by decide) (hw_lt v15)))
  have vq := va_at.kept vq (hk _ (hw_lt vq) (hw_AWn (hw_RX_13 Rx) (by decide) (hw_lt vq)))
  have vla := va_at.kept vla (hk _ (hw_lt vla) (hw_AWn (hw_RM_41 Rm) (by decide) (hw_lt vla)))
  have vsz := va_at.kept vsz (hk _ (hw_lt vsz) (hw_AWn (hw_RM_42 Rm) (by decide) (hw_lt vsz)))
  have vth := va_at.kept vth (hk _ (hw_lt vth) (hw_AWn (hw_RM_43 Rm) (by decide) (hw_lt vth)))
  have v16 := va_at.kept v16 (hk _ (hw_lt v16) (hw_AWn (hw_RX_0 Rx) (by decide) (hw_lt v16)))
  refine lv_pop hx hb dL_law_483 rfl ?_
  refine lv_goto (tgt := 1187) hx hb dL_law_484 (by decide) ?_
  refine W.widen (k := k + 20) (n := n + 80) (by first | omega | (show _ ≤ _; omega)) (by first | omega | (show _ ≤ _; omega)) ?_
  exact hk9 _ _ _ ⟨G1, rx, rm, x13, x14, ksx, scx, x19, kym, lom, wkm, dkm, lnm, smm, fim, bem, rkm, rlm, rwm, clm, dgm, fq, la, sz9, fla, fsz, th, tt, fth, hH, hGe1, wx, wm, gx, gm, Rx, v15, ⟨by first | decide | omega, by first | decide | omega⟩, vq, hRK, Rm, v20, ⟨by first | decide | omega, by first | decide | omega⟩, ⟨by first | decide | omega, by first | decide | omega⟩, ⟨by first | decide | omega, by first | decide | omega⟩, ⟨by first | decide | omega, by first | decide | omega⟩, ⟨by first | decide | omega, by first | decide | omega⟩, ⟨by first | decide | omega, by first | decide | omega⟩, ⟨by first | decide | omega, by first | decide | omega⟩, ⟨by first | decide | omega, by first | decide | omega⟩, ⟨by first | decide | omega, by first | decide | omega⟩, ⟨by first | decide | omega, by first | decide | omega⟩, ⟨by first | decide | omega, by first | decide | omega⟩, ⟨by first | decide | omega, by first | decide | omega⟩, vla, vsz, qsz, hrel, vth, hrt⟩ hS hl

set_option maxHeartbeats 40000000 in
set_option maxRecDepth 100000 in
theorem hw_case487 {p : Program} {e : Env} {s : State} {m : MethodId} {below : List Frame} {meth : Method} {c : Code} (l : Launch) {b L : Nat} {xs : Nat → Int32} {D : hw_D} {G : Nat → Nat} {H : Heap} {locs : List Loc} {x mo k n : Nat} {y3 : Int32} {ls : Array Slot} (hL : L ≤ 384) (hy0 : 0 ≤ y3.toInt ∧ y3.toInt ≤ 384) (hy : y3.toInt + 6 ≤ L) (hkc : k + 20 ≤ 600000) (hnc : n + 80 ≤ 7302250) (hx : p.tables.exec = Jvm.exec) (hb : c.code = code) (hr : meth.sig.returnType = ret) (hml : c.maxLocals = 4) (hown : s.vm.findClass R_law = some m.cls) (hts0 : ∀ w ∈ lw_tbl, w.before #[Value.ref b] s = true) (hts : ∀ w ∈ wsL_law, w.before #[Value.ref b] s = true) (hX : va_X b L xs s s.heap) (hbl : b < s.heap.size) (hlocks : meth.locks = false) (hG0 : G = fun _ => 0) (hK : va_K D.1 vwCl (hw_ty D.2.1) s) (hST : hw_ST D.2.2 G s.heap.size s) (hI : hw_I D G s H x mo) (hS : va_S (hw_AW G [1, 2, 3, 4, 5, 6, 7, 8, 9, 10, 11, 12, 13, 14, 15, 16, 17, 18, 19, 20, 21, 22, 23, 24, 25, 26, 27, 28, 29, 30, 31, 32, 40, 42, 44, 45, 46, 48, 49, 50, 51, 53, 55, 58, 59, 67, 68, 69, 70, 71, 72, 73, 74, 75, 76, 77, 78, 79, 80, 81, 82, 83, 84, 101, 102, 103, 104, 105, 106, 107, 108, 109, 127, 128, 129, 132] s.heap.size) s.heap H locs) (hl : lv_has ls 4 [(3, .int y3), (2, .ref mo), (1, .ref x), (0, .ref b)]) (hk9 : ∀ (H1 : Heap) (locs1 : List Loc) (ls1 : Array Slot), hw_I D G s H1 x mo → va_S (hw_AW G [1, 2, 3, 4, 5, 6, 7, 8, 9, 10, 11, 12, 13, 14, 15, 16, 17, 18, 19, 20, 21, 22, 23, 24, 25, 26, 27, 28, 29, 30, 31, 32, 40, 42, 44, 45, 46, 48, 49, 50, 51, 53, 55, 58, 59, 67, 68, 69, 70, 71, 72, 73, 74, 75, 76, 77, 78, 79, 80, 81, 82, 83, 84, 101, 102, 103, 104, 105, 106, 107, 108, 109, 127, 128, 129, 132] s.heap.size) s.heap H1 locs1 → lv_has ls1 4 [(3, .int y3), (2, .ref mo), (1, .ref x), (0, .ref b)] → W p l e room_1 s m #[Value.ref b] below meth c H1 locs1 (k + 20) (n + 80) (lw_Z below #[Value.ref b] s) (F0 m 1187 ls1 [])) : W p l e room_1 s m #[Value.ref b] below meth c H locs k n (lw_Z below #[Value.ref b] s) (F0 m 487 ls []) := by
  have hH0 : hw_HT D G s.heap := fun a h => absurd (by rw [hG0]) h
  have hbA : ¬ (hw_AW G [1, 2, 3, 4, 5, 6, 7, 8, 9, 10, 11, 12, 13, 14, 15, 16, 17, 18, 19, 20, 21, 22, 23, 24, 25, 26, 27, 28, 29, 30, 31, 32, 40, 42, 44, 45, 46, 48, 49, 50, 51, 53, 55, 58, 59, 67, 68, 69, 70, 71, 72, 73, 74, 75, 76, 77, 78, 79, 80, 81, 82, 83, 84, 101, 102, 103, 104, 105, 106, 107, 108, 109, 127, 128, 129, 132] s.heap.size) b := hw_AWn (k := 0) (by rw [hG0]) (by decide) hbl
  have hLi : (Int32.ofNat L).toInt = (L : Int) := nI_toInt (by omega)
  refine hw_I_elim hI ?_
  intro G1 rx rm pnx pcx ksx scx udm kym lom wkm dkm lnm smm fim bem rkm rlm rwm clm dgm fq la sz9 fla fsz th tt fth hH hGe1 wx wm gx gm Rx vx gsc vq hRK Rm vm gm0 gm1 gm2 gm3 gm4 gm5 gm6 gm7 gm8 gm9 gm10 gm11 vla vsz qsz hrel vth hrt
  have hHs := hH0
  have hz24 := hw_hz24 hrel qsz
  have qq := hRK.q
  refine lv_aload_n hx hb dL_law_487 rfl (lv_at hl 2 rfl) ?_
  refine lv_aload_n hx hb dL_law_488 rfl (lv_at hl 3 rfl) ?_
  refine lv_iload_n hx hb dL_law_489 rfl (lv_at hl 0 rfl) ?_
  refine lv_iconst (v := 1) hx hb dL_law_490 (by decide) ?_
  refine lv_iadd hx hb dL_law_491 ?_
  have t1 : (y3 + 1).toInt = y3.toInt + 1 := hw_add rfl rfl (by omega) (by omega)
  refine va_sld hx hb hX hbl hbA hS (hw_in (by omega) (by omega)) dL_law_492 ?_
  obtain ⟨r2, kc_3, lc_4, wc_5, dk_6, v7, R8, g9, g10, g11⟩ := hH.oC (hw_RX_0 Rx)
  refine hw_cM0 (va_runV (As := [.int (xs (y3 + 1).toNatClampNeg)]) (rest := []) ⟨hx, hb, hml, hown, hts⟩ (k_X11_mend l D G1 x (xs (y3 + 1).toNatClampNeg) _ rx pnx pcx ksx scx r2 kc_3 lc_4 wc_5 dk_6 gx Rx ⟨by first | decide | omega, by first | decide | omega⟩ R8 ⟨by first | decide | omega, by first | decide | omega⟩ ⟨by first | decide | omega, by first | decide | omega⟩ ⟨by first | decide | omega, by first | decide | omega⟩) (cwV 1 hts gL_law_X11_mend rfl rfl rfl (by decide +kernel) ⟨Nat.le_of_ble_eq_true rfl, Nat.le_of_ble_eq_true rfl⟩) (hw_pV (hw_rc (q := (RX11, TX11, 14)) hK vx rfl) hH hK hST hS (by decide) (hw_hG hGe1) ⟨vx, v7⟩) rfl rfl hl.1 rfl (lv_room (Nat.le_of_ble_eq_true rfl)) dL_law_493 ⟨by show _ ≤ 600000; omega, by show _ ≤ 7302250; omega⟩) hS (hw_AWsub (by decide) hGe1 hS.1) (fun v H locs hp hz hk hS => ?_)
  obtain ⟨x12, x13, x14, rfl, hH, v15, v16, q17⟩ := hp
  have hRK := hw_RK3.kept hRK (fun q9 h9 l9 => hk q9 l9 (by rcases h9 with h9 | h9 <;> exact hw_AWn h9 (by decide) l9))
  have vq := va_at.kept vq (hk _ (hw_lt vq) (hw_AWn (hw_RX_13 Rx) (by decide) (hw_lt vq)))
  have vm := va_at.kept vm (hk _ (hw_lt vm) (hw_AWn gm (by decide) (hw_lt vm)))
  have vla := va_at.kept vla (hk _ (hw_lt vla) (hw_AWn (hw_RM_41 Rm) (by decide) (hw_lt vla)))
  have vsz := va_at.kept vsz (hk _ (hw_lt vsz) (hw_AWn (hw_RM_42 Rm) (by decide) (hw_lt vsz)))
  have vth := va_at.kept vth (hk _ (hw_lt vth) (hw_AWn (hw_RM_43 Rm) (by decide) (hw_lt vth)))
  refine lv_pop hx hb dL_law_496 rfl ?_
  refine lv_aload_n hx hb dL_law_497 rfl (lv_at hl 1 rfl) ?_
  refine lv_aload_n hx hb dL_law_498 rfl (lv_at hl 3 rfl) ?_
  refine lv_iload_n hx hb dL_law_499 rfl (lv_at hl 0 rfl) ?_
  refine lv_iconst (v := 1) hx hb dL_law_500 (by decide) ?_
  refine lv_iadd hx hb dL_law_501 ?_
  refine va_sld hx hb hX hbl hbA hS (hw_in (by omega) (by omega)) dL_law_502 ?_
  refine hw_cM0 (va_runV (As := [.int (xs (y3 + 1).toNatClampNeg)]) (rest := []) ⟨hx, hb, hml, hown, hts⟩ (k_X12_mend l D G1 mo (xs (y3 + 1).toNatClampNeg) _ rm udm kym lom wkm dkm lnm smm fim bem rkm rlm rwm clm dgm gm Rm ⟨by first | decide | omega, by first | decide | omega⟩ ⟨by first | decide | omega, by first | decide | omega⟩ ⟨by first | decide | omega, by first | decide | omega⟩ ⟨by first | decide | omega, by first | decide | omega⟩ ⟨by first | decide | omega, by first | decide | omega⟩ ⟨by first | decide | omega, by first | decide | omega⟩ ⟨by first | decide | omega, by first | decide | omega⟩ ⟨by first | decide | omega, by first | decide | omega⟩ ⟨by first | decide | omega, by first | decide | omega⟩ ⟨by first | decide | omega, by first | decide | omega⟩ ⟨by first | decide | omega, by first | decide | omega⟩ ⟨by first | decide | omega, by first | decide | omega⟩) (cwV 1 hts gL_law_X12_mend rfl rfl rfl (by decide +kernel) ⟨Nat.le_of_ble_eq_true rfl, Nat.le_of_ble_eq_true rfl⟩) (hw_pV (hw_rc (q := (RX12, TX12, 45)) hK vm rfl) hH hK hST hS (by decide) (hw_hG hGe1) vm) rfl rfl hl.1 rfl (lv_room (Nat.le_of_ble_eq_true rfl)) dL_law_503 ⟨by show _ ≤ 600000; omega, by show _ ≤ 7302250; omega⟩) hS (hw_AWsub (by decide) hGe1 hS.1) (fun v H locs hp hz hk hS => ?_)
  obtain ⟨x18, x19, rfl, hH, v20, g21, q22⟩ := hp
  have hRK := hw_RK3.kept hRK (fun q9 h9 l9 => hk q9 l9 (by rcases h9 with h9 | h9 <;> exact hw_AWn h9 (by decide) l9))
  have v15 := va_at.kept v15 (hk _ (hw_lt v15) (hw_AWn gx (by decide) (hw_lt v15)))
  have vq := va_at.kept vq (hk _ (hw_lt vq) (hw_AWn (hw_RX_13 Rx) (by decide) (hw_lt vq)))
  have vla := va_at.kept vla (hk _ (hw_lt vla) (hw_AWn (hw_RM_41 Rm) (by decide) (hw_lt vla)))
  have vsz := va_at.kept vsz (hk _ (hw_lt vsz) (hw_AWn (hw_RM_42 Rm) (by decide) (hw_lt vsz)))
  have vth := va_at.kept vth (hk _ (hw_lt vth) (hw_AWn (hw_RM_43 Rm) (by decide) (hw_lt vth)))
  have v16 := va_at.kept v16 (hk _ (hw_lt v16) (hw_AWn (hw_RX_0 Rx) (by decide) (hw_lt v16)))
  refine lv_pop hx hb dL_law_506 rfl ?_
  refine lv_goto (tgt := 1187) hx hb dL_law_507 (by decide) ?_
  refine W.widen (k := k + 20) (n := n + 80) (by first | omega | (show _ ≤ _; omega)) (by first | omega | (show _ ≤ _; omega)) ?_
  exact hk9 _ _ _ ⟨G1, rx, rm, x13, x14, ksx, scx, x19, kym, lom, wkm, dkm, lnm, smm, fim, bem, rkm, rlm, rwm, clm, dgm, fq, la, sz9, fla, fsz, th, tt, fth, hH, hGe1, wx, wm, gx, gm, Rx, v15, ⟨by first | decide | omega, by first | decide | omega⟩, vq, hRK, Rm, v20, ⟨by first | decide | omega, by first | decide | omega⟩, ⟨by first | decide | omega, by first | decide | omega⟩, ⟨by first | decide | omega, by first | decide | omega⟩, ⟨by first | decide | omega, by first | decide | omega⟩, ⟨by first | decide | omega, by first | decide | omega⟩, ⟨by first | decide | omega, by first | decide | omega⟩, ⟨by first | decide | omega, by first | decide | omega⟩, ⟨by first | decide | omega, by first | decide | omega⟩, ⟨by first | decide | omega, by first | decide | omega⟩, ⟨by first | decide | omega, by first | decide | omega⟩, ⟨by first | decide | omega, by first | decide | omega⟩, ⟨by first | decide | omega, by first | decide | omega⟩, vla, vsz, qsz, hrel, vth, hrt⟩ hS hl

set_option maxHeartbeats 40000000 in
set_option maxRecDepth 100000 in
theorem hw_case510 {p : Program} {e : Env} {s : State} {m : MethodId} {below : List Frame} {meth : Method} {c : Code} (l : Launch) {b L : Nat} {xs : Nat → Int32} {D : hw_D} {G : Nat → Nat} {H : Heap} {locs : List Loc} {x mo k n : Nat} {y3 : Int32} {ls : Array Slot} (hL : L ≤ 384) (hy0 : 0 ≤ y3.toInt ∧ y3.toInt ≤ 384) (hy : y3.toInt + 6 ≤ L) (hkc : k + 20 ≤ 600000) (hnc : n + 80 ≤ 7302250) (hx : p.tables.exec = Jvm.exec) (hb : c.code = code) (hr : meth.sig.returnType = ret) (hml : c.maxLocals = 4) (hown : s.vm.findClass R_law = some m.cls) (hts0 : ∀ w ∈ lw_tbl, w.before #[Value.ref b] s = true) (hts : ∀ w ∈ wsL_law, w.before #[Value.ref b] s = true) (hX : va_X b L xs s s.heap) (hbl : b < s.heap.size) (hlocks : meth.locks = false) (hG0 : G = fun _ => 0) (hK : va_K D.1 vwCl (hw_ty D.2.1) s) (hST : hw_ST D.2.2 G s.heap.size s) (hI : hw_I D G s H x mo) (hS : va_S (hw_AW G [1, 2, 3, 4, 5, 6, 7, 8, 9, 10, 11, 12, 13, 14, 15, 16, 17, 18, 19, 20, 21, 22, 23, 24, 25, 26, 27, 28, 29, 30, 31, 32, 40, 42, 44, 45, 46, 48, 49, 50, 51, 53, 55, 58, 59, 67, 68, 69, 70, 71, 72, 73, 74, 75, 76, 77, 78, 79, 80, 81, 82, 83, 84, 101, 102, 103, 104, 105, 106, 107, 108, 109, 127, 128, 129, 132] s.heap.size) s.heap H locs) (hl : lv_has ls 4 [(3, .int y3), (2, .ref mo), (1, .ref x), (0, .ref b)]) (hk9 : ∀ (H1 : Heap) (locs1 : List Loc) (ls1 : Array Slot), hw_I D G s H1 x mo → va_S (hw_AW G [1, 2, 3, 4, 5, 6, 7, 8, 9, 10, 11, 12, 13, 14, 15, 16, 17, 18, 19, 20, 21, 22, 23, 24, 25, 26, 27, 28, 29, 30, 31, 32, 40, 42, 44, 45, 46, 48, 49, 50, 51, 53, 55, 58, 59, 67, 68, 69, 70, 71, 72, 73, 74, 75, 76, 77, 78, 79, 80, 81, 82, 83, 84, 101, 102, 103, 104, 105, 106, 107, 108, 109, 127, 128, 129, 132] s.heap.size) s.heap H1 locs1 → lv_has ls1 4 [(3, .int y3), (2, .ref mo), (1, .ref x), (0, .ref b)] → W p l e room_1 s m #[Value.ref b] below meth c H1 locs1 (k + 20) (n + 80) (lw_Z below #[Value.ref b] s) (F0 m 1187 ls1 [])) : W p l e room_1 s m #[Value.ref b] below meth c H locs k n (lw_Z below #[Value.ref b] s) (F0 m 510 ls []) := by
  have hH0 : hw_HT D G s.heap := fun a h => absurd (by rw [hG0]) h
  have hbA : ¬ (hw_AW G [1, 2, 3, 4, 5, 6, 7, 8, 9, 10, 11, 12, 13, 14, 15, 16, 17, 18, 19, 20, 21, 22, 23, 24, 25, 26, 27, 28, 29, 30, 31, 32, 40, 42, 44, 45, 46, 48, 49, 50, 51, 53, 55, 58, 59, 67, 68, 69, 70, 71, 72, 73, 74, 75, 76, 77, 78, 79, 80, 81, 82, 83, 84, 101, 102, 103, 104, 105, 106, 107, 108, 109, 127, 128, 129, 132] s.heap.size) b := hw_AWn (k := 0) (by rw [hG0]) (by decide) hbl
  have hLi : (Int32.ofNat L).toInt = (L : Int) := nI_toInt (by omega)
  refine hw_I_elim hI ?_
  intro G1 rx rm pnx pcx ksx scx udm kym lom wkm dkm lnm smm fim bem rkm rlm rwm clm dgm fq la sz9 fla fsz th tt fth hH hGe1 wx wm gx gm Rx vx gsc vq hRK Rm vm gm0 gm1 gm2 gm3 gm4 gm5 gm6 gm7 gm8 gm9 gm10 gm11 vla vsz qsz hrel vth hrt
  have hHs := hH0
  have hz24 := hw_hz24 hrel qsz
  have qq := hRK.q
  refine lv_aload_n hx hb dL_law_510 rfl (lv_at hl 2 rfl) ?_
  obtain ⟨r1, td_2, fd_3, os_4, v5, R6⟩ := hH.oS (hw_RX_2 Rx)
  refine hw_cM0 (va_runV (As := []) (rest := []) ⟨hx, hb, hml, hown, hts⟩ (k_X11_day l D G1 x _ rx pnx pcx ksx scx r1 td_2 fd_3 os_4 gx Rx ⟨by first | decide | omega, by first | decide | omega⟩ R6) (cwV 0 hts gL_law_X11_day rfl rfl rfl (by decide +kernel) ⟨Nat.le_of_ble_eq_true rfl, Nat.le_of_ble_eq_true rfl⟩) (hw_pV (hw_rc (q := (RX11, TX11, 14)) hK vx rfl) hH hK hST hS (by decide) (hw_hG hGe1) ⟨vx, v5⟩) rfl rfl hl.1 rfl (lv_room (Nat.le_of_ble_eq_true rfl)) dL_law_511 ⟨by show _ ≤ 600000; omega, by show _ ≤ 7302250; omega⟩) hS (hw_AWsub (by decide) hGe1 hS.1) (fun v H locs hp hz hk hS => ?_)
  obtain ⟨x7, x8, x9, x10, x11, x12, rfl, hH, v13, v14, q15⟩ := hp
  have hRK := hw_RK3.kept hRK (fun q9 h9 l9 => hk q9 l9 (by rcases h9 with h9 | h9 <;> exact hw_AWn h9 (by decide) l9))
  have vq := va_at.kept vq (hk _ (hw_lt vq) (hw_AWn (hw_RX_13 Rx) (by decide) (hw_lt vq)))
  have vm := va_at.kept vm (hk _ (hw_lt vm) (hw_AWn gm (by decide) (hw_lt vm)))
  have vla := va_at.kept vla (hk _ (hw_lt vla) (hw_AWn (hw_RM_41 Rm) (by decide) (hw_lt vla)))
  have vsz := va_at.kept vsz (hk _ (hw_lt vsz) (hw_AWn (hw_RM_42 Rm) (by decide) (hw_lt vsz)))
  have vth := va_at.kept vth (hk _ (hw_lt vth) (hw_AWn (hw_RM_43 Rm) (by decide) (hw_lt vth)))
  refine lv_pop hx hb dL_law_514 rfl ?_
  refine lv_aload_n hx hb dL_law_515 rfl (lv_at hl 1 rfl) ?_
  obtain ⟨f16, v17⟩ := hH.a40 (hw_RM_0 Rm)
  refine hw_cM0 (va_runV (As := []) (rest := []) ⟨hx, hb, hml, hown, hts⟩ (k_X12_day l D G1 mo _ rm udm kym lom wkm dkm lnm smm fim bem rkm rlm rwm clm dgm f16 gm Rm ⟨by first | decide | omega, by first | decide | omega⟩ ⟨by first | decide | omega, by first | decide | omega⟩ ⟨by first | decide | omega, by first | decide | omega⟩ ⟨by first | decide | omega, by first | decide | omega⟩ ⟨by first | decide | omega, by first | decide | omega⟩ ⟨by first | decide | omega, by first | decide | omega⟩ ⟨by first | decide | omega, by first | decide | omega⟩ ⟨by first | decide | omega, by first | decide | omega⟩ ⟨by first | decide | omega, by first | decide | omega⟩ ⟨by first | decide | omega, by first | decide | omega⟩ ⟨by first | decide | omega, by first | decide | omega⟩ ⟨by first | decide | omega, by first | decide | omega⟩) (cwV 0 hts gL_law_X12_day rfl rfl rfl (by decide +kernel) ⟨Nat.le_of_ble_eq_true rfl, Nat.le_of_ble_eq_true rfl⟩) (hw_pV (hw_rc (q := (RX12, TX12, 45)) hK vm rfl) hH hK hST hS (by decide) (hw_hG hGe1) ⟨vm, v17⟩) rfl rfl hl.1 rfl (lv_room (Nat.le_of_ble_eq_true rfl)) dL_law_516 ⟨by show _ ≤ 600000; omega, by show _ ≤ 7302250; omega⟩) hS (hw_AWsub (by decide) hGe1 hS.1) (fun v H locs hp hz hk hS => ?_)
  obtain ⟨x19, x20, f21, rfl, hH, v22, v23, g24, q25⟩ := hp
  have hRK := hw_RK3.kept hRK (fun q9 h9 l9 => hk q9 l9 (by rcases h9 with h9 | h9 <;> exact hw_AWn h9 (by decide) l9))
  have v13 := va_at.kept v13 (hk _ (hw_lt v13) (hw_AWn gx (by decide) (hw_lt v13)))
  have vq := va_at.kept vq (hk _ (hw_lt vq) (hw_AWn (hw_RX_13 Rx) (by decide) (hw_lt vq)))
  have vla := va_at.kept vla (hk _ (hw_lt vla) (hw_AWn (hw_RM_41 Rm) (by decide) (hw_lt vla)))
  have vsz := va_at.kept vsz (hk _ (hw_lt vsz) (hw_AWn (hw_RM_42 Rm) (by decide) (hw_lt vsz)))
  have vth := va_at.kept vth (hk _ (hw_lt vth) (hw_AWn (hw_RM_43 Rm) (by decide) (hw_lt vth)))
  have v14 := va_at.kept v14 (hk _ (hw_lt v14) (hw_AWn (hw_RX_2 Rx) (by decide) (hw_lt v14)))
  refine lv_pop hx hb dL_law_519 rfl ?_
  refine lv_goto (tgt := 1187) hx hb dL_law_520 (by decide) ?_
  refine W.widen (k := k + 20) (n := n + 80) (by first | omega | (show _ ≤ _; omega)) (by first | omega | (show _ ≤ _; omega)) ?_
  exact hk9 _ _ _ ⟨G1, rx, rm, x8, x9, ksx, scx, x20, kym, lom, wkm, dkm, lnm, smm, fim, bem, rkm, rlm, rwm, clm, dgm, fq, la, sz9, fla, fsz, th, tt, fth, hH, hGe1, wx, wm, gx, gm, Rx, v13, ⟨by first | decide | omega, by first | decide | omega⟩, vq, hRK, Rm, v22, ⟨by first | decide | omega, by first | decide | omega⟩, ⟨by first | decide | omega, by first | decide | omega⟩, ⟨by first | decide | omega, by first | decide | omega⟩, ⟨by first | decide | omega, by first | decide | omega⟩, ⟨by first | decide | omega, by first | decide | omega⟩, ⟨by first | decide | omega, by first | decide | omega⟩, ⟨by first | decide | omega, by first | decide | omega⟩, ⟨by first | decide | omega, by first | decide | omega⟩, ⟨by first | decide | omega, by first | decide | omega⟩, ⟨by first | decide | omega, by first | decide | omega⟩, ⟨by first | decide | omega, by first | decide | omega⟩, ⟨by first | decide | omega, by first | decide | omega⟩, vla, vsz, qsz, hrel, vth, hrt⟩ hS hl

