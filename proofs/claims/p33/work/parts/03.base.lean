/-! my own: kinds of cells, the heap that keeps them (a cell of a kind holds what its kind says), rows over it -/
abbrev hw_D : Type := va_G × (Nat → ClassId) × (Nat → Nat)
abbrev hw_ty (dA : Nat → ClassId) : List (ClassId × FieldType) := [(dA 0, .int), (dA 1, .long), (dA 2, .boolean), (dA 3, .object "WardWalkers$Key"), (dA 4, .object "WardWalkers$Lock"), (dA 5, .object "WardWalkers$Standing"), (dA 6, .object "WardWalkers$Text"), (dA 7, .object "WardWalkers$Rack")]
abbrev hw_LX (r : Nat → Nat) (pn pc ks sc : Int32) : List Value := [.ref (r 0), .ref (r 1), .ref (r 2), .ref (r 3), .int pn, .int pc, .ref (r 6), .ref (r 7), .int ks, .ref (r 9), .ref (r 10), .int sc, .ref (r 12), .ref (r 13)]
def hw_RX (G : Nat → Nat) (r : Nat → Nat) : Prop := G (r 0) = 2 ∧ G (r 1) = 8 ∧ G (r 2) = 7 ∧ G (r 3) = 27 ∧ G (r 6) = 28 ∧ G (r 7) = 29 ∧ G (r 9) = 30 ∧ G (r 10) = 31 ∧ G (r 12) = 5 ∧ G (r 13) = 32
theorem hw_RX_0 {G : Nat → Nat} {r : Nat → Nat} (h : hw_RX G r) : G (r 0) = 2 := h.1
theorem hw_RX_1 {G : Nat → Nat} {r : Nat → Nat} (h : hw_RX G r) : G (r 1) = 8 := h.2.1
theorem hw_RX_2 {G : Nat → Nat} {r : Nat → Nat} (h : hw_RX G r) : G (r 2) = 7 := h.2.2.1
theorem hw_RX_3 {G : Nat → Nat} {r : Nat → Nat} (h : hw_RX G r) : G (r 3) = 27 := h.2.2.2.1
theorem hw_RX_6 {G : Nat → Nat} {r : Nat → Nat} (h : hw_RX G r) : G (r 6) = 28 := h.2.2.2.2.1
theorem hw_RX_7 {G : Nat → Nat} {r : Nat → Nat} (h : hw_RX G r) : G (r 7) = 29 := h.2.2.2.2.2.1
theorem hw_RX_9 {G : Nat → Nat} {r : Nat → Nat} (h : hw_RX G r) : G (r 9) = 30 := h.2.2.2.2.2.2.1
theorem hw_RX_10 {G : Nat → Nat} {r : Nat → Nat} (h : hw_RX G r) : G (r 10) = 31 := h.2.2.2.2.2.2.2.1
theorem hw_RX_12 {G : Nat → Nat} {r : Nat → Nat} (h : hw_RX G r) : G (r 12) = 5 := h.2.2.2.2.2.2.2.2.1
theorem hw_RX_13 {G : Nat → Nat} {r : Nat → Nat} (h : hw_RX G r) : G (r 13) = 32 := h.2.2.2.2.2.2.2.2.2
theorem hw_RX_mono {G G2 : Nat → Nat} {r : Nat → Nat} (hm : ∀ a, G a ≠ 0 → G a < 100 → G2 a = G a) (h : hw_RX G r) : hw_RX G2 r := ⟨(hm _ (by rw [hw_RX_0 h]; decide) (by rw [hw_RX_0 h]; decide)).trans (hw_RX_0 h), (hm _ (by rw [hw_RX_1 h]; decide) (by rw [hw_RX_1 h]; decide)).trans (hw_RX_1 h), (hm _ (by rw [hw_RX_2 h]; decide) (by rw [hw_RX_2 h]; decide)).trans (hw_RX_2 h), (hm _ (by rw [hw_RX_3 h]; decide) (by rw [hw_RX_3 h]; decide)).trans (hw_RX_3 h), (hm _ (by rw [hw_RX_6 h]; decide) (by rw [hw_RX_6 h]; decide)).trans (hw_RX_6 h), (hm _ (by rw [hw_RX_7 h]; decide) (by rw [hw_RX_7 h]; decide)).trans (hw_RX_7 h), (hm _ (by rw [hw_RX_9 h]; decide) (by rw [hw_RX_9 h]; decide)).trans (hw_RX_9 h), (hm _ (by rw [hw_RX_10 h]; decide) (by rw [hw_RX_10 h]; decide)).trans (hw_RX_10 h), (hm _ (by rw [hw_RX_12 h]; decide) (by rw [hw_RX_12 h]; decide)).trans (hw_RX_12 h), (hm _ (by rw [hw_RX_13 h]; decide) (by rw [hw_RX_13 h]; decide)).trans (hw_RX_13 h)⟩
abbrev hw_LC (r : Nat → Nat) (kc lc wc dk : Int32) : List Value := [.ref (r 0), .int kc, .ref (r 2), .int lc, .ref (r 4), .int wc, .int dk]
def hw_RC (G : Nat → Nat) (r : Nat → Nat) : Prop := G (r 0) = 10 ∧ G (r 2) = 11 ∧ G (r 4) = 12
theorem hw_RC_0 {G : Nat → Nat} {r : Nat → Nat} (h : hw_RC G r) : G (r 0) = 10 := h.1
theorem hw_RC_2 {G : Nat → Nat} {r : Nat → Nat} (h : hw_RC G r) : G (r 2) = 11 := h.2.1
theorem hw_RC_4 {G : Nat → Nat} {r : Nat → Nat} (h : hw_RC G r) : G (r 4) = 12 := h.2.2
theorem hw_RC_mono {G G2 : Nat → Nat} {r : Nat → Nat} (hm : ∀ a, G a ≠ 0 → G a < 100 → G2 a = G a) (h : hw_RC G r) : hw_RC G2 r := ⟨(hm _ (by rw [hw_RC_0 h]; decide) (by rw [hw_RC_0 h]; decide)).trans (hw_RC_0 h), (hm _ (by rw [hw_RC_2 h]; decide) (by rw [hw_RC_2 h]; decide)).trans (hw_RC_2 h), (hm _ (by rw [hw_RC_4 h]; decide) (by rw [hw_RC_4 h]; decide)).trans (hw_RC_4 h)⟩
abbrev hw_LL (r : Nat → Nat) (pl wa py va : Int32) : List Value := [.int pl, .int wa, .int py, .int va]
abbrev hw_LP (r : Nat → Nat) (pa : Int32) : List Value := [.ref (r 0), .ref (r 1), .ref (r 2), .int pa, .ref (r 4), .ref (r 5), .ref (r 6)]
def hw_RP (G : Nat → Nat) (r : Nat → Nat) : Prop := G (r 0) = 13 ∧ G (r 1) = 14 ∧ G (r 2) = 15 ∧ G (r 4) = 16 ∧ G (r 5) = 17 ∧ G (r 6) = 18
theorem hw_RP_0 {G : Nat → Nat} {r : Nat → Nat} (h : hw_RP G r) : G (r 0) = 13 := h.1
theorem hw_RP_1 {G : Nat → Nat} {r : Nat → Nat} (h : hw_RP G r) : G (r 1) = 14 := h.2.1
theorem hw_RP_2 {G : Nat → Nat} {r : Nat → Nat} (h : hw_RP G r) : G (r 2) = 15 := h.2.2.1
theorem hw_RP_4 {G : Nat → Nat} {r : Nat → Nat} (h : hw_RP G r) : G (r 4) = 16 := h.2.2.2.1
theorem hw_RP_5 {G : Nat → Nat} {r : Nat → Nat} (h : hw_RP G r) : G (r 5) = 17 := h.2.2.2.2.1
theorem hw_RP_6 {G : Nat → Nat} {r : Nat → Nat} (h : hw_RP G r) : G (r 6) = 18 := h.2.2.2.2.2
theorem hw_RP_mono {G G2 : Nat → Nat} {r : Nat → Nat} (hm : ∀ a, G a ≠ 0 → G a < 100 → G2 a = G a) (h : hw_RP G r) : hw_RP G2 r := ⟨(hm _ (by rw [hw_RP_0 h]; decide) (by rw [hw_RP_0 h]; decide)).trans (hw_RP_0 h), (hm _ (by rw [hw_RP_1 h]; decide) (by rw [hw_RP_1 h]; decide)).trans (hw_RP_1 h), (hm _ (by rw [hw_RP_2 h]; decide) (by rw [hw_RP_2 h]; decide)).trans (hw_RP_2 h), (hm _ (by rw [hw_RP_4 h]; decide) (by rw [hw_RP_4 h]; decide)).trans (hw_RP_4 h), (hm _ (by rw [hw_RP_5 h]; decide) (by rw [hw_RP_5 h]; decide)).trans (hw_RP_5 h), (hm _ (by rw [hw_RP_6 h]; decide) (by rw [hw_RP_6 h]; decide)).trans (hw_RP_6 h)⟩
abbrev hw_LK (r : Nat → Nat) (la sz : Int32) : List Value := [.ref (r 0), .int la, .int sz]
def hw_RK (G : Nat → Nat) (r : Nat → Nat) : Prop := G (r 0) = 19
theorem hw_RK_0 {G : Nat → Nat} {r : Nat → Nat} (h : hw_RK G r) : G (r 0) = 19 := h
theorem hw_RK_mono {G G2 : Nat → Nat} {r : Nat → Nat} (hm : ∀ a, G a ≠ 0 → G a < 100 → G2 a = G a) (h : hw_RK G r) : hw_RK G2 r := (hm _ (by rw [hw_RK_0 h]; decide) (by rw [hw_RK_0 h]; decide)).trans (hw_RK_0 h)
abbrev hw_LS (r : Nat → Nat) (td fd os : Int32) : List Value := [.int td, .int fd, .int os, .ref (r 3), .ref (r 4), .ref (r 5), .ref (r 6)]
def hw_RS (G : Nat → Nat) (r : Nat → Nat) : Prop := G (r 3) = 20 ∧ G (r 4) = 21 ∧ G (r 5) = 22 ∧ G (r 6) = 23
theorem hw_RS_3 {G : Nat → Nat} {r : Nat → Nat} (h : hw_RS G r) : G (r 3) = 20 := h.1
theorem hw_RS_4 {G : Nat → Nat} {r : Nat → Nat} (h : hw_RS G r) : G (r 4) = 21 := h.2.1
theorem hw_RS_5 {G : Nat → Nat} {r : Nat → Nat} (h : hw_RS G r) : G (r 5) = 22 := h.2.2.1
theorem hw_RS_6 {G : Nat → Nat} {r : Nat → Nat} (h : hw_RS G r) : G (r 6) = 23 := h.2.2.2
theorem hw_RS_mono {G G2 : Nat → Nat} {r : Nat → Nat} (hm : ∀ a, G a ≠ 0 → G a < 100 → G2 a = G a) (h : hw_RS G r) : hw_RS G2 r := ⟨(hm _ (by rw [hw_RS_3 h]; decide) (by rw [hw_RS_3 h]; decide)).trans (hw_RS_3 h), (hm _ (by rw [hw_RS_4 h]; decide) (by rw [hw_RS_4 h]; decide)).trans (hw_RS_4 h), (hm _ (by rw [hw_RS_5 h]; decide) (by rw [hw_RS_5 h]; decide)).trans (hw_RS_5 h), (hm _ (by rw [hw_RS_6 h]; decide) (by rw [hw_RS_6 h]; decide)).trans (hw_RS_6 h)⟩
abbrev hw_LT (r : Nat → Nat) (ln cl st en kf lf wf : Int32) : List Value := [.ref (r 0), .int ln, .int cl, .ref (r 3), .ref (r 4), .int st, .int en, .int kf, .int lf, .int wf]
def hw_RT (G : Nat → Nat) (r : Nat → Nat) : Prop := G (r 0) = 24 ∧ G (r 3) = 25 ∧ G (r 4) = 26
theorem hw_RT_0 {G : Nat → Nat} {r : Nat → Nat} (h : hw_RT G r) : G (r 0) = 24 := h.1
theorem hw_RT_3 {G : Nat → Nat} {r : Nat → Nat} (h : hw_RT G r) : G (r 3) = 25 := h.2.1
theorem hw_RT_4 {G : Nat → Nat} {r : Nat → Nat} (h : hw_RT G r) : G (r 4) = 26 := h.2.2
theorem hw_RT_mono {G G2 : Nat → Nat} {r : Nat → Nat} (hm : ∀ a, G a ≠ 0 → G a < 100 → G2 a = G a) (h : hw_RT G r) : hw_RT G2 r := ⟨(hm _ (by rw [hw_RT_0 h]; decide) (by rw [hw_RT_0 h]; decide)).trans (hw_RT_0 h), (hm _ (by rw [hw_RT_3 h]; decide) (by rw [hw_RT_3 h]; decide)).trans (hw_RT_3 h), (hm _ (by rw [hw_RT_4 h]; decide) (by rw [hw_RT_4 h]; decide)).trans (hw_RT_4 h)⟩
abbrev hw_LM (r : Nat → Nat) (ud ky lo wk dk ln sm fi be rk rl rw cl dg : Int32) : List Value := [.ref (r 0), .int ud, .ref (r 2), .int ky, .ref (r 4), .ref (r 5), .ref (r 6), .int lo, .ref (r 8), .ref (r 9), .ref (r 10), .ref (r 11), .int wk, .ref (r 13), .int dk, .ref (r 15), .int ln, .int sm, .ref (r 18), .ref (r 19), .int fi, .int be, .int rk, .int rl, .int rw, .int cl, .int dg, .ref (r 27), .ref (r 28), .ref (r 29), .ref (r 30), .ref (r 31), .ref (r 32), .ref (r 33), .ref (r 34), .ref (r 35), .ref (r 36), .ref (r 37), .ref (r 38), .ref (r 39), .ref (r 40), .ref (r 41), .ref (r 42), .ref (r 43), .ref (r 44)]
def hw_RM (G : Nat → Nat) (r : Nat → Nat) : Prop := G (r 0) = 40 ∧ G (r 2) = 42 ∧ G (r 4) = 44 ∧ G (r 5) = 45 ∧ G (r 6) = 46 ∧ G (r 8) = 48 ∧ G (r 9) = 49 ∧ G (r 10) = 50 ∧ G (r 11) = 51 ∧ G (r 13) = 53 ∧ G (r 15) = 55 ∧ G (r 18) = 58 ∧ G (r 19) = 59 ∧ G (r 27) = 67 ∧ G (r 28) = 68 ∧ G (r 29) = 69 ∧ G (r 30) = 70 ∧ G (r 31) = 71 ∧ G (r 32) = 72 ∧ G (r 33) = 73 ∧ G (r 34) = 74 ∧ G (r 35) = 75 ∧ G (r 36) = 76 ∧ G (r 37) = 77 ∧ G (r 38) = 78 ∧ G (r 39) = 79 ∧ G (r 40) = 80 ∧ G (r 41) = 81 ∧ G (r 42) = 82 ∧ G (r 43) = 83 ∧ G (r 44) = 84
theorem hw_RM_0 {G : Nat → Nat} {r : Nat → Nat} (h : hw_RM G r) : G (r 0) = 40 := h.1
theorem hw_RM_2 {G : Nat → Nat} {r : Nat → Nat} (h : hw_RM G r) : G (r 2) = 42 := h.2.1
theorem hw_RM_4 {G : Nat → Nat} {r : Nat → Nat} (h : hw_RM G r) : G (r 4) = 44 := h.2.2.1
theorem hw_RM_5 {G : Nat → Nat} {r : Nat → Nat} (h : hw_RM G r) : G (r 5) = 45 := h.2.2.2.1
theorem hw_RM_6 {G : Nat → Nat} {r : Nat → Nat} (h : hw_RM G r) : G (r 6) = 46 := h.2.2.2.2.1
theorem hw_RM_8 {G : Nat → Nat} {r : Nat → Nat} (h : hw_RM G r) : G (r 8) = 48 := h.2.2.2.2.2.1
theorem hw_RM_9 {G : Nat → Nat} {r : Nat → Nat} (h : hw_RM G r) : G (r 9) = 49 := h.2.2.2.2.2.2.1
theorem hw_RM_10 {G : Nat → Nat} {r : Nat → Nat} (h : hw_RM G r) : G (r 10) = 50 := h.2.2.2.2.2.2.2.1
theorem hw_RM_11 {G : Nat → Nat} {r : Nat → Nat} (h : hw_RM G r) : G (r 11) = 51 := h.2.2.2.2.2.2.2.2.1
theorem hw_RM_13 {G : Nat → Nat} {r : Nat → Nat} (h : hw_RM G r) : G (r 13) = 53 := h.2.2.2.2.2.2.2.2.2.1
theorem hw_RM_15 {G : Nat → Nat} {r : Nat → Nat} (h : hw_RM G r) : G (r 15) = 55 := h.2.2.2.2.2.2.2.2.2.2.1
theorem hw_RM_18 {G : Nat → Nat} {r : Nat → Nat} (h : hw_RM G r) : G (r 18) = 58 := h.2.2.2.2.2.2.2.2.2.2.2.1
theorem hw_RM_19 {G : Nat → Nat} {r : Nat → Nat} (h : hw_RM G r) : G (r 19) = 59 := h.2.2.2.2.2.2.2.2.2.2.2.2.1
theorem hw_RM_27 {G : Nat → Nat} {r : Nat → Nat} (h : hw_RM G r) : G (r 27) = 67 := h.2.2.2.2.2.2.2.2.2.2.2.2.2.1
theorem hw_RM_28 {G : Nat → Nat} {r : Nat → Nat} (h : hw_RM G r) : G (r 28) = 68 := h.2.2.2.2.2.2.2.2.2.2.2.2.2.2.1
theorem hw_RM_29 {G : Nat → Nat} {r : Nat → Nat} (h : hw_RM G r) : G (r 29) = 69 := h.2.2.2.2.2.2.2.2.2.2.2.2.2.2.2.1
theorem hw_RM_30 {G : Nat → Nat} {r : Nat → Nat} (h : hw_RM G r) : G (r 30) = 70 := h.2.2.2.2.2.2.2.2.2.2.2.2.2.2.2.2.1
theorem hw_RM_31 {G : Nat → Nat} {r : Nat → Nat} (h : hw_RM G r) : G (r 31) = 71 := h.2.2.2.2.2.2.2.2.2.2.2.2.2.2.2.2.2.1
theorem hw_RM_32 {G : Nat → Nat} {r : Nat → Nat} (h : hw_RM G r) : G (r 32) = 72 := h.2.2.2.2.2.2.2.2.2.2.2.2.2.2.2.2.2.2.1
theorem hw_RM_33 {G : Nat → Nat} {r : Nat → Nat} (h : hw_RM G r) : G (r 33) = 73 := h.2.2.2.2.2.2.2.2.2.2.2.2.2.2.2.2.2.2.2.1
theorem hw_RM_34 {G : Nat → Nat} {r : Nat → Nat} (h : hw_RM G r) : G (r 34) = 74 := h.2.2.2.2.2.2.2.2.2.2.2.2.2.2.2.2.2.2.2.2.1
theorem hw_RM_35 {G : Nat → Nat} {r : Nat → Nat} (h : hw_RM G r) : G (r 35) = 75 := h.2.2.2.2.2.2.2.2.2.2.2.2.2.2.2.2.2.2.2.2.2.1
theorem hw_RM_36 {G : Nat → Nat} {r : Nat → Nat} (h : hw_RM G r) : G (r 36) = 76 := h.2.2.2.2.2.2.2.2.2.2.2.2.2.2.2.2.2.2.2.2.2.2.1
theorem hw_RM_37 {G : Nat → Nat} {r : Nat → Nat} (h : hw_RM G r) : G (r 37) = 77 := h.2.2.2.2.2.2.2.2.2.2.2.2.2.2.2.2.2.2.2.2.2.2.2.1
theorem hw_RM_38 {G : Nat → Nat} {r : Nat → Nat} (h : hw_RM G r) : G (r 38) = 78 := h.2.2.2.2.2.2.2.2.2.2.2.2.2.2.2.2.2.2.2.2.2.2.2.2.1
theorem hw_RM_39 {G : Nat → Nat} {r : Nat → Nat} (h : hw_RM G r) : G (r 39) = 79 := h.2.2.2.2.2.2.2.2.2.2.2.2.2.2.2.2.2.2.2.2.2.2.2.2.2.1
theorem hw_RM_40 {G : Nat → Nat} {r : Nat → Nat} (h : hw_RM G r) : G (r 40) = 80 := h.2.2.2.2.2.2.2.2.2.2.2.2.2.2.2.2.2.2.2.2.2.2.2.2.2.2.1
theorem hw_RM_41 {G : Nat → Nat} {r : Nat → Nat} (h : hw_RM G r) : G (r 41) = 81 := h.2.2.2.2.2.2.2.2.2.2.2.2.2.2.2.2.2.2.2.2.2.2.2.2.2.2.2.1
theorem hw_RM_42 {G : Nat → Nat} {r : Nat → Nat} (h : hw_RM G r) : G (r 42) = 82 := h.2.2.2.2.2.2.2.2.2.2.2.2.2.2.2.2.2.2.2.2.2.2.2.2.2.2.2.2.1
theorem hw_RM_43 {G : Nat → Nat} {r : Nat → Nat} (h : hw_RM G r) : G (r 43) = 83 := h.2.2.2.2.2.2.2.2.2.2.2.2.2.2.2.2.2.2.2.2.2.2.2.2.2.2.2.2.2.1
theorem hw_RM_44 {G : Nat → Nat} {r : Nat → Nat} (h : hw_RM G r) : G (r 44) = 84 := h.2.2.2.2.2.2.2.2.2.2.2.2.2.2.2.2.2.2.2.2.2.2.2.2.2.2.2.2.2.2
theorem hw_RM_mono {G G2 : Nat → Nat} {r : Nat → Nat} (hm : ∀ a, G a ≠ 0 → G a < 100 → G2 a = G a) (h : hw_RM G r) : hw_RM G2 r := ⟨(hm _ (by rw [hw_RM_0 h]; decide) (by rw [hw_RM_0 h]; decide)).trans (hw_RM_0 h), (hm _ (by rw [hw_RM_2 h]; decide) (by rw [hw_RM_2 h]; decide)).trans (hw_RM_2 h), (hm _ (by rw [hw_RM_4 h]; decide) (by rw [hw_RM_4 h]; decide)).trans (hw_RM_4 h), (hm _ (by rw [hw_RM_5 h]; decide) (by rw [hw_RM_5 h]; decide)).trans (hw_RM_5 h), (hm _ (by rw [hw_RM_6 h]; decide) (by rw [hw_RM_6 h]; decide)).trans (hw_RM_6 h), (hm _ (by rw [hw_RM_8 h]; decide) (by rw [hw_RM_8 h]; decide)).trans (hw_RM_8 h), (hm _ (by rw [hw_RM_9 h]; decide) (by rw [hw_RM_9 h]; decide)).trans (hw_RM_9 h), (hm _ (by rw [hw_RM_10 h]; decide) (by rw [hw_RM_10 h]; decide)).trans (hw_RM_10 h), (hm _ (by rw [hw_RM_11 h]; decide) (by rw [hw_RM_11 h]; decide)).trans (hw_RM_11 h), (hm _ (by rw [hw_RM_13 h]; decide) (by rw [hw_RM_13 h]; decide)).trans (hw_RM_13 h), (hm _ (by rw [hw_RM_15 h]; decide) (by rw [hw_RM_15 h]; decide)).trans (hw_RM_15 h), (hm _ (by rw [hw_RM_18 h]; decide) (by rw [hw_RM_18 h]; decide)).trans (hw_RM_18 h), (hm _ (by rw [hw_RM_19 h]; decide) (by rw [hw_RM_19 h]; decide)).trans (hw_RM_19 h), (hm _ (by rw [hw_RM_27 h]; decide) (by rw [hw_RM_27 h]; decide)).trans (hw_RM_27 h), (hm _ (by rw [hw_RM_28 h]; decide) (by rw [hw_RM_28 h]; decide)).trans (hw_RM_28 h), (hm _ (by rw [hw_RM_29 h]; decide) (by rw [hw_RM_29 h]; decide)).trans (hw_RM_29 h), (hm _ (by rw [hw_RM_30 h]; decide) (by rw [hw_RM_30 h]; decide)).trans (hw_RM_30 h), (hm _ (by rw [hw_RM_31 h]; decide) (by rw [hw_RM_31 h]; decide)).trans (hw_RM_31 h), (hm _ (by rw [hw_RM_32 h]; decide) (by rw [hw_RM_32 h]; decide)).trans (hw_RM_32 h), (hm _ (by rw [hw_RM_33 h]; decide) (by rw [hw_RM_33 h]; decide)).trans (hw_RM_33 h), (hm _ (by rw [hw_RM_34 h]; decide) (by rw [hw_RM_34 h]; decide)).trans (hw_RM_34 h), (hm _ (by rw [hw_RM_35 h]; decide) (by rw [hw_RM_35 h]; decide)).trans (hw_RM_35 h), (hm _ (by rw [hw_RM_36 h]; decide) (by rw [hw_RM_36 h]; decide)).trans (hw_RM_36 h), (hm _ (by rw [hw_RM_37 h]; decide) (by rw [hw_RM_37 h]; decide)).trans (hw_RM_37 h), (hm _ (by rw [hw_RM_38 h]; decide) (by rw [hw_RM_38 h]; decide)).trans (hw_RM_38 h), (hm _ (by rw [hw_RM_39 h]; decide) (by rw [hw_RM_39 h]; decide)).trans (hw_RM_39 h), (hm _ (by rw [hw_RM_40 h]; decide) (by rw [hw_RM_40 h]; decide)).trans (hw_RM_40 h), (hm _ (by rw [hw_RM_41 h]; decide) (by rw [hw_RM_41 h]; decide)).trans (hw_RM_41 h), (hm _ (by rw [hw_RM_42 h]; decide) (by rw [hw_RM_42 h]; decide)).trans (hw_RM_42 h), (hm _ (by rw [hw_RM_43 h]; decide) (by rw [hw_RM_43 h]; decide)).trans (hw_RM_43 h), (hm _ (by rw [hw_RM_44 h]; decide) (by rw [hw_RM_44 h]; decide)).trans (hw_RM_44 h)⟩
def hw_AI (dA : Nat → ClassId) (n : Nat) (e : va_E) : Prop := ∃ f : Nat → Int32, e = .inl (dA 0, n, .inl f)
def hw_AIr (dA : Nat → ClassId) (n : Nat) (lo hi : Int) (e : va_E) : Prop := ∃ f : Nat → Int32, e = .inl (dA 0, n, .inl f) ∧ ∀ j, j < n → lo ≤ (f j).toInt ∧ (f j).toInt ≤ hi
def hw_AL (dA : Nat → ClassId) (n : Nat) (e : va_E) : Prop := ∃ f : Nat → Int64, e = .inl (dA 1, n, .inr (.inl f))
def hw_AZ (dA : Nat → ClassId) (n : Nat) (e : va_E) : Prop := ∃ f : Nat → Int32, e = .inl (dA 2, n, .inl f)
def hw_AQ (dA : Nat → ClassId) (t n : Nat) (G : Nat → Nat) (k : Nat) (e : va_E) : Prop := ∃ f : Nat → Option Nat, e = .inl (dA t, n, .inr (.inr (.inr (.inr f)))) ∧ ∀ j b, j < n → f j = some b → G b = k
def hw_AQn (dA : Nat → ClassId) (t n : Nat) (G : Nat → Nat) (k : Nat) (e : va_E) : Prop := ∃ f : Nat → Option Nat, e = .inl (dA t, n, .inr (.inr (.inr (.inr f)))) ∧ ∀ j, j < n → ∃ b, f j = some b ∧ G b = k
def hw_OX (G : Nat → Nat) (e : va_E) : Prop := ∃ (r : Nat → Nat) (pn pc ks sc : Int32), e = .inr (10, hw_LX r pn pc ks sc) ∧ hw_RX G r ∧ (0 ≤ sc.toInt ∧ sc.toInt ≤ 6)
def hw_OC (G : Nat → Nat) (e : va_E) : Prop := ∃ (r : Nat → Nat) (kc lc wc dk : Int32), e = .inr (1, hw_LC r kc lc wc dk) ∧ hw_RC G r ∧ (0 ≤ kc.toInt ∧ kc.toInt ≤ 7) ∧ (0 ≤ lc.toInt ∧ lc.toInt ≤ 7) ∧ (0 ≤ wc.toInt ∧ wc.toInt ≤ 3)
def hw_OL (G : Nat → Nat) (e : va_E) : Prop := ∃ (r : Nat → Nat) (pl wa py va : Int32), e = .inr (3, hw_LL r pl wa py va)
def hw_OP (G : Nat → Nat) (e : va_E) : Prop := ∃ (r : Nat → Nat) (pa : Int32), e = .inr (5, hw_LP r pa) ∧ hw_RP G r
def hw_OK (G : Nat → Nat) (e : va_E) : Prop := ∃ (r : Nat → Nat) (la sz : Int32), e = .inr (6, hw_LK r la sz) ∧ hw_RK G r
def hw_OS (G : Nat → Nat) (e : va_E) : Prop := ∃ (r : Nat → Nat) (td fd os : Int32), e = .inr (8, hw_LS r td fd os) ∧ hw_RS G r
def hw_OT (G : Nat → Nat) (e : va_E) : Prop := ∃ (r : Nat → Nat) (ln cl st en kf lf wf : Int32), e = .inr (9, hw_LT r ln cl st en kf lf wf) ∧ hw_RT G r ∧ (0 ≤ ln.toInt ∧ ln.toInt ≤ 200) ∧ (0 ≤ cl.toInt ∧ cl.toInt ≤ 20) ∧ (0 ≤ st.toInt ∧ st.toInt ≤ 200) ∧ (0 ≤ en.toInt ∧ en.toInt ≤ 200)
def hw_OM (G : Nat → Nat) (e : va_E) : Prop := ∃ (r : Nat → Nat) (ud ky lo wk dk ln sm fi be rk rl rw cl dg : Int32), e = .inr (11, hw_LM r ud ky lo wk dk ln sm fi be rk rl rw cl dg) ∧ hw_RM G r ∧ (0 ≤ ud.toInt ∧ ud.toInt ≤ 8) ∧ (0 ≤ ky.toInt ∧ ky.toInt ≤ 7) ∧ (0 ≤ lo.toInt ∧ lo.toInt ≤ 7) ∧ (0 ≤ wk.toInt ∧ wk.toInt ≤ 3) ∧ (0 ≤ ln.toInt ∧ ln.toInt ≤ 200) ∧ (0 ≤ sm.toInt ∧ sm.toInt ≤ 6) ∧ (0 ≤ fi.toInt ∧ fi.toInt ≤ 200) ∧ (0 ≤ be.toInt ∧ be.toInt ≤ 200) ∧ (0 ≤ rk.toInt ∧ rk.toInt ≤ 7) ∧ (0 ≤ rl.toInt ∧ rl.toInt ≤ 7) ∧ (0 ≤ rw.toInt ∧ rw.toInt ≤ 3) ∧ (0 ≤ dg.toInt ∧ dg.toInt ≤ 1)
def hw_OKey (e : va_E) : Prop := ∃ cu mk : Int32, e = .inr (0, [.int cu, .int mk]) ∨ e = .inr (2, [.int cu, .int mk]) ∨ e = .inr (4, [.int cu, .int mk]) ∨ e = .inr (7, [.int cu, .int mk])
def hw_ok (dA : Nat → ClassId) (G : Nat → Nat) (k : Nat) (e : va_E) : Prop := match k with
  | 1 => hw_OX G e
  | 2 => hw_OC G e
  | 4 => hw_OL G e
  | 5 => hw_OP G e
  | 6 => hw_OK G e
  | 7 => hw_OS G e
  | 8 => hw_OT G e
  | 9 => hw_OM G e
  | 3 => hw_OKey e
  | 10 => hw_AQ dA 3 7 G 3 e
  | 11 => hw_AQ dA 4 7 G 4 e
  | 12 => hw_AI dA 3 e
  | 13 => hw_AI dA 7 e
  | 14 => hw_AI dA 1024 e
  | 15 => hw_AIr dA 7 (-1) 6 e
  | 16 => hw_AI dA 896 e
  | 17 => hw_AI dA 128 e
  | 18 => hw_AI dA 128 e
  | 19 => hw_AL dA 24 e
  | 20 => hw_AI dA 7 e
  | 21 => hw_AI dA 7 e
  | 22 => hw_AI dA 3 e
  | 23 => hw_AI dA 3 e
  | 24 => hw_AI dA 200 e
  | 25 => hw_AI dA 20 e
  | 26 => hw_AI dA 80 e
  | 27 => hw_AQn dA 5 8 G 7 e
  | 28 => hw_AQn dA 5 2 G 7 e
  | 29 => hw_AQn dA 6 2 G 8 e
  | 30 => hw_AI dA 6 e
  | 31 => hw_AI dA 6 e
  | 32 => hw_AQn dA 7 4 G 6 e
  | 40 => hw_AI dA 253 e
  | 42 => hw_AZ dA 2 e
  | 44 => hw_AI dA 7 e
  | 45 => hw_AI dA 7 e
  | 46 => hw_AI dA 7 e
  | 48 => hw_AI dA 7 e
  | 49 => hw_AI dA 7 e
  | 50 => hw_AI dA 7 e
  | 51 => hw_AI dA 7 e
  | 53 => hw_AI dA 3 e
  | 55 => hw_AI dA 200 e
  | 58 => hw_AIr dA 6 0 6 e
  | 59 => hw_AI dA 6 e
  | 67 => hw_AI dA 4 e
  | 68 => hw_AI dA 5 e
  | 69 => hw_AI dA 5 e
  | 70 => hw_AI dA 6 e
  | 71 => hw_AI dA 5 e
  | 72 => hw_AI dA 4 e
  | 73 => hw_AI dA 4 e
  | 74 => hw_AI dA 6 e
  | 75 => hw_AI dA 4 e
  | 76 => hw_AI dA 1024 e
  | 77 => hw_AI dA 896 e
  | 78 => hw_AI dA 128 e
  | 79 => hw_AI dA 128 e
  | 80 => hw_AI dA 128 e
  | 81 => hw_AI dA 4 e
  | 82 => hw_AIr dA 4 (-1) 24 e
  | 83 => hw_AL dA 96 e
  | 84 => hw_AL dA 24 e
  | 101 => ∃ fs : List Value, e = .inr (10, fs)
  | 102 => ∃ fs : List Value, e = .inr (1, fs)
  | 104 => ∃ fs : List Value, e = .inr (3, fs)
  | 105 => ∃ fs : List Value, e = .inr (5, fs)
  | 106 => ∃ fs : List Value, e = .inr (6, fs)
  | 107 => ∃ fs : List Value, e = .inr (8, fs)
  | 108 => ∃ fs : List Value, e = .inr (9, fs)
  | 109 => ∃ fs : List Value, e = .inr (11, fs)
  | 103 => ∃ (ci : Nat) (fs : List Value), (ci = 0 ∨ ci = 2 ∨ ci = 4 ∨ ci = 7) ∧ e = .inr (ci, fs)
  | 127 => hw_AQ dA 5 8 G 7 e
  | 128 => hw_AQ dA 5 2 G 7 e
  | 129 => hw_AQ dA 6 2 G 8 e
  | 132 => hw_AQ dA 7 4 G 6 e
  | _ => False
theorem hw_AQ_mono {dA : Nat → ClassId} {t n : Nat} {G G2 : Nat → Nat} {k : Nat} {e : va_E} (hk : k ≠ 0) (hk2 : k < 100) (hm : ∀ a, G a ≠ 0 → G a < 100 → G2 a = G a) (h : hw_AQ dA t n G k e) : hw_AQ dA t n G2 k e := by
  obtain ⟨f, h1, h2⟩ := h
  exact ⟨f, h1, fun j b hj hb => (hm _ (by rw [h2 j b hj hb]; exact hk) (by rw [h2 j b hj hb]; exact hk2)).trans (h2 j b hj hb)⟩
theorem hw_AQn_mono {dA : Nat → ClassId} {t n : Nat} {G G2 : Nat → Nat} {k : Nat} {e : va_E} (hk : k ≠ 0) (hk2 : k < 100) (hm : ∀ a, G a ≠ 0 → G a < 100 → G2 a = G a) (h : hw_AQn dA t n G k e) : hw_AQn dA t n G2 k e := by
  obtain ⟨f, h1, h2⟩ := h
  refine ⟨f, h1, fun j hj => ?_⟩
  obtain ⟨b, h3, h4⟩ := h2 j hj
  exact ⟨b, h3, (hm _ (by rw [h4]; exact hk) (by rw [h4]; exact hk2)).trans h4⟩
theorem hw_OX_mono {G G2 : Nat → Nat} {e : va_E} (hm : ∀ a, G a ≠ 0 → G a < 100 → G2 a = G a) (h : hw_OX G e) : hw_OX G2 e := by
  obtain ⟨r, pn, pc, ks, sc, h1, h2, g0⟩ := h
  exact ⟨r, pn, pc, ks, sc, h1, hw_RX_mono hm h2, g0⟩
theorem hw_OC_mono {G G2 : Nat → Nat} {e : va_E} (hm : ∀ a, G a ≠ 0 → G a < 100 → G2 a = G a) (h : hw_OC G e) : hw_OC G2 e := by
  obtain ⟨r, kc, lc, wc, dk, h1, h2, g0, g1, g2⟩ := h
  exact ⟨r, kc, lc, wc, dk, h1, hw_RC_mono hm h2, g0, g1, g2⟩
theorem hw_OL_mono {G G2 : Nat → Nat} {e : va_E} (hm : ∀ a, G a ≠ 0 → G a < 100 → G2 a = G a) (h : hw_OL G e) : hw_OL G2 e := by
  obtain ⟨r, pl, wa, py, va, h1⟩ := h
  exact ⟨r, pl, wa, py, va, h1⟩
theorem hw_OP_mono {G G2 : Nat → Nat} {e : va_E} (hm : ∀ a, G a ≠ 0 → G a < 100 → G2 a = G a) (h : hw_OP G e) : hw_OP G2 e := by
  obtain ⟨r, pa, h1, h2⟩ := h
  exact ⟨r, pa, h1, hw_RP_mono hm h2⟩
theorem hw_OK_mono {G G2 : Nat → Nat} {e : va_E} (hm : ∀ a, G a ≠ 0 → G a < 100 → G2 a = G a) (h : hw_OK G e) : hw_OK G2 e := by
  obtain ⟨r, la, sz, h1, h2⟩ := h
  exact ⟨r, la, sz, h1, hw_RK_mono hm h2⟩
theorem hw_OS_mono {G G2 : Nat → Nat} {e : va_E} (hm : ∀ a, G a ≠ 0 → G a < 100 → G2 a = G a) (h : hw_OS G e) : hw_OS G2 e := by
  obtain ⟨r, td, fd, os, h1, h2⟩ := h
  exact ⟨r, td, fd, os, h1, hw_RS_mono hm h2⟩
theorem hw_OT_mono {G G2 : Nat → Nat} {e : va_E} (hm : ∀ a, G a ≠ 0 → G a < 100 → G2 a = G a) (h : hw_OT G e) : hw_OT G2 e := by
  obtain ⟨r, ln, cl, st, en, kf, lf, wf, h1, h2, g0, g1, g2, g3⟩ := h
  exact ⟨r, ln, cl, st, en, kf, lf, wf, h1, hw_RT_mono hm h2, g0, g1, g2, g3⟩
theorem hw_OM_mono {G G2 : Nat → Nat} {e : va_E} (hm : ∀ a, G a ≠ 0 → G a < 100 → G2 a = G a) (h : hw_OM G e) : hw_OM G2 e := by
  obtain ⟨r, ud, ky, lo, wk, dk, ln, sm, fi, be, rk, rl, rw, cl, dg, h1, h2, g0, g1, g2, g3, g4, g5, g6, g7, g8, g9, g10, g11⟩ := h
  exact ⟨r, ud, ky, lo, wk, dk, ln, sm, fi, be, rk, rl, rw, cl, dg, h1, hw_RM_mono hm h2, g0, g1, g2, g3, g4, g5, g6, g7, g8, g9, g10, g11⟩
set_option maxHeartbeats 4000000 in
theorem hw_ok_mono {dA : Nat → ClassId} {G G2 : Nat → Nat} (hm : ∀ a, G a ≠ 0 → G a < 100 → G2 a = G a) (k : Nat) (e : va_E) (h : hw_ok dA G k e) : hw_ok dA G2 k e := by
  unfold hw_ok at h ⊢
  split at h <;> first | exact h | (first | exact hw_OX_mono hm h | exact hw_OC_mono hm h | exact hw_OL_mono hm h | exact hw_OP_mono hm h | exact hw_OK_mono hm h | exact hw_OS_mono hm h | exact hw_OT_mono hm h | exact hw_OM_mono hm h) | exact hw_AQ_mono (by decide) (by decide) hm h | exact hw_AQn_mono (by decide) (by decide) hm h
/-- the heap keeps the kinds that G tells -/
def hw_HT (D : hw_D) (G : Nat → Nat) (H : Heap) : Prop := ∀ a, G a ≠ 0 → ∃ e, hw_ok D.2.1 G (G a) e ∧ va_at D.1 vwCl (a, e) H
theorem hw_HT.at {D : hw_D} {G : Nat → Nat} {H : Heap} {a k : Nat} (h : hw_HT D G H) (hk : G a = k) (h0 : k ≠ 0) : ∃ e, hw_ok D.2.1 G k e ∧ va_at D.1 vwCl (a, e) H := by
  subst hk
  exact h a h0
theorem hw_HT.oX {D : hw_D} {G : Nat → Nat} {H : Heap} {a : Nat} (h : hw_HT D G H) (hk : G a = 1) : ∃ (r : Nat → Nat) (pn pc ks sc : Int32), va_at D.1 vwCl (a, .inr (10, hw_LX r pn pc ks sc)) H ∧ hw_RX G r ∧ (0 ≤ sc.toInt ∧ sc.toInt ≤ 6) := by
  obtain ⟨e, h1, hv⟩ := h.at hk (by decide)
  obtain ⟨r, pn, pc, ks, sc, rfl, h2, g0⟩ := (show hw_OX G e from h1)
  exact ⟨r, pn, pc, ks, sc, hv, h2, g0⟩
theorem hw_HT.oC {D : hw_D} {G : Nat → Nat} {H : Heap} {a : Nat} (h : hw_HT D G H) (hk : G a = 2) : ∃ (r : Nat → Nat) (kc lc wc dk : Int32), va_at D.1 vwCl (a, .inr (1, hw_LC r kc lc wc dk)) H ∧ hw_RC G r ∧ (0 ≤ kc.toInt ∧ kc.toInt ≤ 7) ∧ (0 ≤ lc.toInt ∧ lc.toInt ≤ 7) ∧ (0 ≤ wc.toInt ∧ wc.toInt ≤ 3) := by
  obtain ⟨e, h1, hv⟩ := h.at hk (by decide)
  obtain ⟨r, kc, lc, wc, dk, rfl, h2, g0, g1, g2⟩ := (show hw_OC G e from h1)
  exact ⟨r, kc, lc, wc, dk, hv, h2, g0, g1, g2⟩
theorem hw_HT.oL {D : hw_D} {G : Nat → Nat} {H : Heap} {a : Nat} (h : hw_HT D G H) (hk : G a = 4) : ∃ (r : Nat → Nat) (pl wa py va : Int32), va_at D.1 vwCl (a, .inr (3, hw_LL r pl wa py va)) H := by
  obtain ⟨e, h1, hv⟩ := h.at hk (by decide)
  obtain ⟨r, pl, wa, py, va, rfl⟩ := (show hw_OL G e from h1)
  exact ⟨r, pl, wa, py, va, hv⟩
theorem hw_HT.oP {D : hw_D} {G : Nat → Nat} {H : Heap} {a : Nat} (h : hw_HT D G H) (hk : G a = 5) : ∃ (r : Nat → Nat) (pa : Int32), va_at D.1 vwCl (a, .inr (5, hw_LP r pa)) H ∧ hw_RP G r := by
  obtain ⟨e, h1, hv⟩ := h.at hk (by decide)
  obtain ⟨r, pa, rfl, h2⟩ := (show hw_OP G e from h1)
  exact ⟨r, pa, hv, h2⟩
theorem hw_HT.oK {D : hw_D} {G : Nat → Nat} {H : Heap} {a : Nat} (h : hw_HT D G H) (hk : G a = 6) : ∃ (r : Nat → Nat) (la sz : Int32), va_at D.1 vwCl (a, .inr (6, hw_LK r la sz)) H ∧ hw_RK G r := by
  obtain ⟨e, h1, hv⟩ := h.at hk (by decide)
  obtain ⟨r, la, sz, rfl, h2⟩ := (show hw_OK G e from h1)
  exact ⟨r, la, sz, hv, h2⟩
theorem hw_HT.oS {D : hw_D} {G : Nat → Nat} {H : Heap} {a : Nat} (h : hw_HT D G H) (hk : G a = 7) : ∃ (r : Nat → Nat) (td fd os : Int32), va_at D.1 vwCl (a, .inr (8, hw_LS r td fd os)) H ∧ hw_RS G r := by
  obtain ⟨e, h1, hv⟩ := h.at hk (by decide)
  obtain ⟨r, td, fd, os, rfl, h2⟩ := (show hw_OS G e from h1)
  exact ⟨r, td, fd, os, hv, h2⟩
theorem hw_HT.oT {D : hw_D} {G : Nat → Nat} {H : Heap} {a : Nat} (h : hw_HT D G H) (hk : G a = 8) : ∃ (r : Nat → Nat) (ln cl st en kf lf wf : Int32), va_at D.1 vwCl (a, .inr (9, hw_LT r ln cl st en kf lf wf)) H ∧ hw_RT G r ∧ (0 ≤ ln.toInt ∧ ln.toInt ≤ 200) ∧ (0 ≤ cl.toInt ∧ cl.toInt ≤ 20) ∧ (0 ≤ st.toInt ∧ st.toInt ≤ 200) ∧ (0 ≤ en.toInt ∧ en.toInt ≤ 200) := by
  obtain ⟨e, h1, hv⟩ := h.at hk (by decide)
  obtain ⟨r, ln, cl, st, en, kf, lf, wf, rfl, h2, g0, g1, g2, g3⟩ := (show hw_OT G e from h1)
  exact ⟨r, ln, cl, st, en, kf, lf, wf, hv, h2, g0, g1, g2, g3⟩
theorem hw_HT.oM {D : hw_D} {G : Nat → Nat} {H : Heap} {a : Nat} (h : hw_HT D G H) (hk : G a = 9) : ∃ (r : Nat → Nat) (ud ky lo wk dk ln sm fi be rk rl rw cl dg : Int32), va_at D.1 vwCl (a, .inr (11, hw_LM r ud ky lo wk dk ln sm fi be rk rl rw cl dg)) H ∧ hw_RM G r ∧ (0 ≤ ud.toInt ∧ ud.toInt ≤ 8) ∧ (0 ≤ ky.toInt ∧ ky.toInt ≤ 7) ∧ (0 ≤ lo.toInt ∧ lo.toInt ≤ 7) ∧ (0 ≤ wk.toInt ∧ wk.toInt ≤ 3) ∧ (0 ≤ ln.toInt ∧ ln.toInt ≤ 200) ∧ (0 ≤ sm.toInt ∧ sm.toInt ≤ 6) ∧ (0 ≤ fi.toInt ∧ fi.toInt ≤ 200) ∧ (0 ≤ be.toInt ∧ be.toInt ≤ 200) ∧ (0 ≤ rk.toInt ∧ rk.toInt ≤ 7) ∧ (0 ≤ rl.toInt ∧ rl.toInt ≤ 7) ∧ (0 ≤ rw.toInt ∧ rw.toInt ≤ 3) ∧ (0 ≤ dg.toInt ∧ dg.toInt ≤ 1) := by
  obtain ⟨e, h1, hv⟩ := h.at hk (by decide)
  obtain ⟨r, ud, ky, lo, wk, dk, ln, sm, fi, be, rk, rl, rw, cl, dg, rfl, h2, g0, g1, g2, g3, g4, g5, g6, g7, g8, g9, g10, g11⟩ := (show hw_OM G e from h1)
  exact ⟨r, ud, ky, lo, wk, dk, ln, sm, fi, be, rk, rl, rw, cl, dg, hv, h2, g0, g1, g2, g3, g4, g5, g6, g7, g8, g9, g10, g11⟩
theorem hw_HT.oKey {D : hw_D} {G : Nat → Nat} {H : Heap} {a : Nat} (h : hw_HT D G H) (hk : G a = 3) : ∃ (ci : Nat) (cu mk : Int32), (ci = 0 ∨ ci = 2 ∨ ci = 4 ∨ ci = 7) ∧ va_at D.1 vwCl (a, .inr (ci, [.int cu, .int mk])) H := by
  obtain ⟨e, h1, hv⟩ := h.at hk (by decide)
  obtain ⟨cu, mk, rfl | rfl | rfl | rfl⟩ := (show hw_OKey e from h1)
  · exact ⟨0, cu, mk, Or.inl rfl, hv⟩
  · exact ⟨2, cu, mk, Or.inr (Or.inl rfl), hv⟩
  · exact ⟨4, cu, mk, Or.inr (Or.inr (Or.inl rfl)), hv⟩
  · exact ⟨7, cu, mk, Or.inr (Or.inr (Or.inr rfl)), hv⟩
theorem hw_HT.a10 {D : hw_D} {G : Nat → Nat} {H : Heap} {a : Nat} (h : hw_HT D G H) (hk : G a = 10) : ∃ f : Nat → Option Nat, va_at D.1 vwCl (a, .inl (D.2.1 3, 7, .inr (.inr (.inr (.inr f))))) H ∧ ∀ j b, j < 7 → f j = some b → G b = 3 := by
  obtain ⟨e, h1, hv⟩ := h.at hk (by decide)
  obtain ⟨f, rfl, h2⟩ := (show hw_AQ D.2.1 3 7 G 3 e from h1)
  exact ⟨f, hv, h2⟩
theorem hw_HT.a11 {D : hw_D} {G : Nat → Nat} {H : Heap} {a : Nat} (h : hw_HT D G H) (hk : G a = 11) : ∃ f : Nat → Option Nat, va_at D.1 vwCl (a, .inl (D.2.1 4, 7, .inr (.inr (.inr (.inr f))))) H ∧ ∀ j b, j < 7 → f j = some b → G b = 4 := by
  obtain ⟨e, h1, hv⟩ := h.at hk (by decide)
  obtain ⟨f, rfl, h2⟩ := (show hw_AQ D.2.1 4 7 G 4 e from h1)
  exact ⟨f, hv, h2⟩
theorem hw_HT.a12 {D : hw_D} {G : Nat → Nat} {H : Heap} {a : Nat} (h : hw_HT D G H) (hk : G a = 12) : ∃ f : Nat → Int32, va_at D.1 vwCl (a, .inl (D.2.1 0, 3, .inl f)) H := by
  obtain ⟨e, h1, hv⟩ := h.at hk (by decide)
  obtain ⟨f, rfl⟩ := (show hw_AI D.2.1 3 e from h1)
  exact ⟨f, hv⟩
theorem hw_HT.a13 {D : hw_D} {G : Nat → Nat} {H : Heap} {a : Nat} (h : hw_HT D G H) (hk : G a = 13) : ∃ f : Nat → Int32, va_at D.1 vwCl (a, .inl (D.2.1 0, 7, .inl f)) H := by
  obtain ⟨e, h1, hv⟩ := h.at hk (by decide)
  obtain ⟨f, rfl⟩ := (show hw_AI D.2.1 7 e from h1)
  exact ⟨f, hv⟩
theorem hw_HT.a14 {D : hw_D} {G : Nat → Nat} {H : Heap} {a : Nat} (h : hw_HT D G H) (hk : G a = 14) : ∃ f : Nat → Int32, va_at D.1 vwCl (a, .inl (D.2.1 0, 1024, .inl f)) H := by
  obtain ⟨e, h1, hv⟩ := h.at hk (by decide)
  obtain ⟨f, rfl⟩ := (show hw_AI D.2.1 1024 e from h1)
  exact ⟨f, hv⟩
theorem hw_HT.a15 {D : hw_D} {G : Nat → Nat} {H : Heap} {a : Nat} (h : hw_HT D G H) (hk : G a = 15) : ∃ f : Nat → Int32, va_at D.1 vwCl (a, .inl (D.2.1 0, 7, .inl f)) H ∧ ∀ j, j < 7 → (-1) ≤ (f j).toInt ∧ (f j).toInt ≤ 6 := by
  obtain ⟨e, h1, hv⟩ := h.at hk (by decide)
  obtain ⟨f, rfl, h2⟩ := (show hw_AIr D.2.1 7 (-1) 6 e from h1)
  exact ⟨f, hv, h2⟩
theorem hw_HT.a16 {D : hw_D} {G : Nat → Nat} {H : Heap} {a : Nat} (h : hw_HT D G H) (hk : G a = 16) : ∃ f : Nat → Int32, va_at D.1 vwCl (a, .inl (D.2.1 0, 896, .inl f)) H := by
  obtain ⟨e, h1, hv⟩ := h.at hk (by decide)
  obtain ⟨f, rfl⟩ := (show hw_AI D.2.1 896 e from h1)
  exact ⟨f, hv⟩
theorem hw_HT.a17 {D : hw_D} {G : Nat → Nat} {H : Heap} {a : Nat} (h : hw_HT D G H) (hk : G a = 17) : ∃ f : Nat → Int32, va_at D.1 vwCl (a, .inl (D.2.1 0, 128, .inl f)) H := by
  obtain ⟨e, h1, hv⟩ := h.at hk (by decide)
  obtain ⟨f, rfl⟩ := (show hw_AI D.2.1 128 e from h1)
  exact ⟨f, hv⟩
theorem hw_HT.a18 {D : hw_D} {G : Nat → Nat} {H : Heap} {a : Nat} (h : hw_HT D G H) (hk : G a = 18) : ∃ f : Nat → Int32, va_at D.1 vwCl (a, .inl (D.2.1 0, 128, .inl f)) H := by
  obtain ⟨e, h1, hv⟩ := h.at hk (by decide)
  obtain ⟨f, rfl⟩ := (show hw_AI D.2.1 128 e from h1)
  exact ⟨f, hv⟩
theorem hw_HT.a19 {D : hw_D} {G : Nat → Nat} {H : Heap} {a : Nat} (h : hw_HT D G H) (hk : G a = 19) : ∃ f : Nat → Int64, va_at D.1 vwCl (a, .inl (D.2.1 1, 24, .inr (.inl f))) H := by
  obtain ⟨e, h1, hv⟩ := h.at hk (by decide)
  obtain ⟨f, rfl⟩ := (show hw_AL D.2.1 24 e from h1)
  exact ⟨f, hv⟩
theorem hw_HT.a20 {D : hw_D} {G : Nat → Nat} {H : Heap} {a : Nat} (h : hw_HT D G H) (hk : G a = 20) : ∃ f : Nat → Int32, va_at D.1 vwCl (a, .inl (D.2.1 0, 7, .inl f)) H := by
  obtain ⟨e, h1, hv⟩ := h.at hk (by decide)
  obtain ⟨f, rfl⟩ := (show hw_AI D.2.1 7 e from h1)
  exact ⟨f, hv⟩
theorem hw_HT.a21 {D : hw_D} {G : Nat → Nat} {H : Heap} {a : Nat} (h : hw_HT D G H) (hk : G a = 21) : ∃ f : Nat → Int32, va_at D.1 vwCl (a, .inl (D.2.1 0, 7, .inl f)) H := by
  obtain ⟨e, h1, hv⟩ := h.at hk (by decide)
  obtain ⟨f, rfl⟩ := (show hw_AI D.2.1 7 e from h1)
  exact ⟨f, hv⟩
theorem hw_HT.a22 {D : hw_D} {G : Nat → Nat} {H : Heap} {a : Nat} (h : hw_HT D G H) (hk : G a = 22) : ∃ f : Nat → Int32, va_at D.1 vwCl (a, .inl (D.2.1 0, 3, .inl f)) H := by
  obtain ⟨e, h1, hv⟩ := h.at hk (by decide)
  obtain ⟨f, rfl⟩ := (show hw_AI D.2.1 3 e from h1)
  exact ⟨f, hv⟩
theorem hw_HT.a23 {D : hw_D} {G : Nat → Nat} {H : Heap} {a : Nat} (h : hw_HT D G H) (hk : G a = 23) : ∃ f : Nat → Int32, va_at D.1 vwCl (a, .inl (D.2.1 0, 3, .inl f)) H := by
  obtain ⟨e, h1, hv⟩ := h.at hk (by decide)
  obtain ⟨f, rfl⟩ := (show hw_AI D.2.1 3 e from h1)
  exact ⟨f, hv⟩
theorem hw_HT.a24 {D : hw_D} {G : Nat → Nat} {H : Heap} {a : Nat} (h : hw_HT D G H) (hk : G a = 24) : ∃ f : Nat → Int32, va_at D.1 vwCl (a, .inl (D.2.1 0, 200, .inl f)) H := by
  obtain ⟨e, h1, hv⟩ := h.at hk (by decide)
  obtain ⟨f, rfl⟩ := (show hw_AI D.2.1 200 e from h1)
  exact ⟨f, hv⟩
theorem hw_HT.a25 {D : hw_D} {G : Nat → Nat} {H : Heap} {a : Nat} (h : hw_HT D G H) (hk : G a = 25) : ∃ f : Nat → Int32, va_at D.1 vwCl (a, .inl (D.2.1 0, 20, .inl f)) H := by
  obtain ⟨e, h1, hv⟩ := h.at hk (by decide)
  obtain ⟨f, rfl⟩ := (show hw_AI D.2.1 20 e from h1)
  exact ⟨f, hv⟩
theorem hw_HT.a26 {D : hw_D} {G : Nat → Nat} {H : Heap} {a : Nat} (h : hw_HT D G H) (hk : G a = 26) : ∃ f : Nat → Int32, va_at D.1 vwCl (a, .inl (D.2.1 0, 80, .inl f)) H := by
  obtain ⟨e, h1, hv⟩ := h.at hk (by decide)
  obtain ⟨f, rfl⟩ := (show hw_AI D.2.1 80 e from h1)
  exact ⟨f, hv⟩
theorem hw_HT.a27 {D : hw_D} {G : Nat → Nat} {H : Heap} {a : Nat} (h : hw_HT D G H) (hk : G a = 27) : ∃ f : Nat → Option Nat, va_at D.1 vwCl (a, .inl (D.2.1 5, 8, .inr (.inr (.inr (.inr f))))) H ∧ ∀ j, j < 8 → ∃ b, f j = some b ∧ G b = 7 := by
  obtain ⟨e, h1, hv⟩ := h.at hk (by decide)
  obtain ⟨f, rfl, h2⟩ := (show hw_AQn D.2.1 5 8 G 7 e from h1)
  exact ⟨f, hv, h2⟩
theorem hw_HT.a28 {D : hw_D} {G : Nat → Nat} {H : Heap} {a : Nat} (h : hw_HT D G H) (hk : G a = 28) : ∃ f : Nat → Option Nat, va_at D.1 vwCl (a, .inl (D.2.1 5, 2, .inr (.inr (.inr (.inr f))))) H ∧ ∀ j, j < 2 → ∃ b, f j = some b ∧ G b = 7 := by
  obtain ⟨e, h1, hv⟩ := h.at hk (by decide)
  obtain ⟨f, rfl, h2⟩ := (show hw_AQn D.2.1 5 2 G 7 e from h1)
  exact ⟨f, hv, h2⟩
theorem hw_HT.a29 {D : hw_D} {G : Nat → Nat} {H : Heap} {a : Nat} (h : hw_HT D G H) (hk : G a = 29) : ∃ f : Nat → Option Nat, va_at D.1 vwCl (a, .inl (D.2.1 6, 2, .inr (.inr (.inr (.inr f))))) H ∧ ∀ j, j < 2 → ∃ b, f j = some b ∧ G b = 8 := by
  obtain ⟨e, h1, hv⟩ := h.at hk (by decide)
  obtain ⟨f, rfl, h2⟩ := (show hw_AQn D.2.1 6 2 G 8 e from h1)
  exact ⟨f, hv, h2⟩
theorem hw_HT.a30 {D : hw_D} {G : Nat → Nat} {H : Heap} {a : Nat} (h : hw_HT D G H) (hk : G a = 30) : ∃ f : Nat → Int32, va_at D.1 vwCl (a, .inl (D.2.1 0, 6, .inl f)) H := by
  obtain ⟨e, h1, hv⟩ := h.at hk (by decide)
  obtain ⟨f, rfl⟩ := (show hw_AI D.2.1 6 e from h1)
  exact ⟨f, hv⟩
theorem hw_HT.a31 {D : hw_D} {G : Nat → Nat} {H : Heap} {a : Nat} (h : hw_HT D G H) (hk : G a = 31) : ∃ f : Nat → Int32, va_at D.1 vwCl (a, .inl (D.2.1 0, 6, .inl f)) H := by
  obtain ⟨e, h1, hv⟩ := h.at hk (by decide)
  obtain ⟨f, rfl⟩ := (show hw_AI D.2.1 6 e from h1)
  exact ⟨f, hv⟩
theorem hw_HT.a32 {D : hw_D} {G : Nat → Nat} {H : Heap} {a : Nat} (h : hw_HT D G H) (hk : G a = 32) : ∃ f : Nat → Option Nat, va_at D.1 vwCl (a, .inl (D.2.1 7, 4, .inr (.inr (.inr (.inr f))))) H ∧ ∀ j, j < 4 → ∃ b, f j = some b ∧ G b = 6 := by
  obtain ⟨e, h1, hv⟩ := h.at hk (by decide)
  obtain ⟨f, rfl, h2⟩ := (show hw_AQn D.2.1 7 4 G 6 e from h1)
  exact ⟨f, hv, h2⟩
theorem hw_HT.a40 {D : hw_D} {G : Nat → Nat} {H : Heap} {a : Nat} (h : hw_HT D G H) (hk : G a = 40) : ∃ f : Nat → Int32, va_at D.1 vwCl (a, .inl (D.2.1 0, 253, .inl f)) H := by
  obtain ⟨e, h1, hv⟩ := h.at hk (by decide)
  obtain ⟨f, rfl⟩ := (show hw_AI D.2.1 253 e from h1)
  exact ⟨f, hv⟩
theorem hw_HT.a42 {D : hw_D} {G : Nat → Nat} {H : Heap} {a : Nat} (h : hw_HT D G H) (hk : G a = 42) : ∃ f : Nat → Int32, va_at D.1 vwCl (a, .inl (D.2.1 2, 2, .inl f)) H := by
  obtain ⟨e, h1, hv⟩ := h.at hk (by decide)
  obtain ⟨f, rfl⟩ := (show hw_AZ D.2.1 2 e from h1)
  exact ⟨f, hv⟩
theorem hw_HT.a44 {D : hw_D} {G : Nat → Nat} {H : Heap} {a : Nat} (h : hw_HT D G H) (hk : G a = 44) : ∃ f : Nat → Int32, va_at D.1 vwCl (a, .inl (D.2.1 0, 7, .inl f)) H := by
  obtain ⟨e, h1, hv⟩ := h.at hk (by decide)
  obtain ⟨f, rfl⟩ := (show hw_AI D.2.1 7 e from h1)
  exact ⟨f, hv⟩
theorem hw_HT.a45 {D : hw_D} {G : Nat → Nat} {H : Heap} {a : Nat} (h : hw_HT D G H) (hk : G a = 45) : ∃ f : Nat → Int32, va_at D.1 vwCl (a, .inl (D.2.1 0, 7, .inl f)) H := by
  obtain ⟨e, h1, hv⟩ := h.at hk (by decide)
  obtain ⟨f, rfl⟩ := (show hw_AI D.2.1 7 e from h1)
  exact ⟨f, hv⟩
theorem hw_HT.a46 {D : hw_D} {G : Nat → Nat} {H : Heap} {a : Nat} (h : hw_HT D G H) (hk : G a = 46) : ∃ f : Nat → Int32, va_at D.1 vwCl (a, .inl (D.2.1 0, 7, .inl f)) H := by
  obtain ⟨e, h1, hv⟩ := h.at hk (by decide)
  obtain ⟨f, rfl⟩ := (show hw_AI D.2.1 7 e from h1)
  exact ⟨f, hv⟩
theorem hw_HT.a48 {D : hw_D} {G : Nat → Nat} {H : Heap} {a : Nat} (h : hw_HT D G H) (hk : G a = 48) : ∃ f : Nat → Int32, va_at D.1 vwCl (a, .inl (D.2.1 0, 7, .inl f)) H := by
  obtain ⟨e, h1, hv⟩ := h.at hk (by decide)
  obtain ⟨f, rfl⟩ := (show hw_AI D.2.1 7 e from h1)
  exact ⟨f, hv⟩
theorem hw_HT.a49 {D : hw_D} {G : Nat → Nat} {H : Heap} {a : Nat} (h : hw_HT D G H) (hk : G a = 49) : ∃ f : Nat → Int32, va_at D.1 vwCl (a, .inl (D.2.1 0, 7, .inl f)) H := by
  obtain ⟨e, h1, hv⟩ := h.at hk (by decide)
  obtain ⟨f, rfl⟩ := (show hw_AI D.2.1 7 e from h1)
  exact ⟨f, hv⟩
theorem hw_HT.a50 {D : hw_D} {G : Nat → Nat} {H : Heap} {a : Nat} (h : hw_HT D G H) (hk : G a = 50) : ∃ f : Nat → Int32, va_at D.1 vwCl (a, .inl (D.2.1 0, 7, .inl f)) H := by
  obtain ⟨e, h1, hv⟩ := h.at hk (by decide)
  obtain ⟨f, rfl⟩ := (show hw_AI D.2.1 7 e from h1)
  exact ⟨f, hv⟩
theorem hw_HT.a51 {D : hw_D} {G : Nat → Nat} {H : Heap} {a : Nat} (h : hw_HT D G H) (hk : G a = 51) : ∃ f : Nat → Int32, va_at D.1 vwCl (a, .inl (D.2.1 0, 7, .inl f)) H := by
  obtain ⟨e, h1, hv⟩ := h.at hk (by decide)
  obtain ⟨f, rfl⟩ := (show hw_AI D.2.1 7 e from h1)
  exact ⟨f, hv⟩
theorem hw_HT.a53 {D : hw_D} {G : Nat → Nat} {H : Heap} {a : Nat} (h : hw_HT D G H) (hk : G a = 53) : ∃ f : Nat → Int32, va_at D.1 vwCl (a, .inl (D.2.1 0, 3, .inl f)) H := by
  obtain ⟨e, h1, hv⟩ := h.at hk (by decide)
  obtain ⟨f, rfl⟩ := (show hw_AI D.2.1 3 e from h1)
  exact ⟨f, hv⟩
theorem hw_HT.a55 {D : hw_D} {G : Nat → Nat} {H : Heap} {a : Nat} (h : hw_HT D G H) (hk : G a = 55) : ∃ f : Nat → Int32, va_at D.1 vwCl (a, .inl (D.2.1 0, 200, .inl f)) H := by
  obtain ⟨e, h1, hv⟩ := h.at hk (by decide)
  obtain ⟨f, rfl⟩ := (show hw_AI D.2.1 200 e from h1)
  exact ⟨f, hv⟩
theorem hw_HT.a58 {D : hw_D} {G : Nat → Nat} {H : Heap} {a : Nat} (h : hw_HT D G H) (hk : G a = 58) : ∃ f : Nat → Int32, va_at D.1 vwCl (a, .inl (D.2.1 0, 6, .inl f)) H ∧ ∀ j, j < 6 → 0 ≤ (f j).toInt ∧ (f j).toInt ≤ 6 := by
  obtain ⟨e, h1, hv⟩ := h.at hk (by decide)
  obtain ⟨f, rfl, h2⟩ := (show hw_AIr D.2.1 6 0 6 e from h1)
  exact ⟨f, hv, h2⟩
theorem hw_HT.a59 {D : hw_D} {G : Nat → Nat} {H : Heap} {a : Nat} (h : hw_HT D G H) (hk : G a = 59) : ∃ f : Nat → Int32, va_at D.1 vwCl (a, .inl (D.2.1 0, 6, .inl f)) H := by
  obtain ⟨e, h1, hv⟩ := h.at hk (by decide)
  obtain ⟨f, rfl⟩ := (show hw_AI D.2.1 6 e from h1)
  exact ⟨f, hv⟩
theorem hw_HT.a67 {D : hw_D} {G : Nat → Nat} {H : Heap} {a : Nat} (h : hw_HT D G H) (hk : G a = 67) : ∃ f : Nat → Int32, va_at D.1 vwCl (a, .inl (D.2.1 0, 4, .inl f)) H := by
  obtain ⟨e, h1, hv⟩ := h.at hk (by decide)
  obtain ⟨f, rfl⟩ := (show hw_AI D.2.1 4 e from h1)
  exact ⟨f, hv⟩
theorem hw_HT.a68 {D : hw_D} {G : Nat → Nat} {H : Heap} {a : Nat} (h : hw_HT D G H) (hk : G a = 68) : ∃ f : Nat → Int32, va_at D.1 vwCl (a, .inl (D.2.1 0, 5, .inl f)) H := by
  obtain ⟨e, h1, hv⟩ := h.at hk (by decide)
  obtain ⟨f, rfl⟩ := (show hw_AI D.2.1 5 e from h1)
  exact ⟨f, hv⟩
theorem hw_HT.a69 {D : hw_D} {G : Nat → Nat} {H : Heap} {a : Nat} (h : hw_HT D G H) (hk : G a = 69) : ∃ f : Nat → Int32, va_at D.1 vwCl (a, .inl (D.2.1 0, 5, .inl f)) H := by
  obtain ⟨e, h1, hv⟩ := h.at hk (by decide)
  obtain ⟨f, rfl⟩ := (show hw_AI D.2.1 5 e from h1)
  exact ⟨f, hv⟩
theorem hw_HT.a70 {D : hw_D} {G : Nat → Nat} {H : Heap} {a : Nat} (h : hw_HT D G H) (hk : G a = 70) : ∃ f : Nat → Int32, va_at D.1 vwCl (a, .inl (D.2.1 0, 6, .inl f)) H := by
  obtain ⟨e, h1, hv⟩ := h.at hk (by decide)
  obtain ⟨f, rfl⟩ := (show hw_AI D.2.1 6 e from h1)
  exact ⟨f, hv⟩
theorem hw_HT.a71 {D : hw_D} {G : Nat → Nat} {H : Heap} {a : Nat} (h : hw_HT D G H) (hk : G a = 71) : ∃ f : Nat → Int32, va_at D.1 vwCl (a, .inl (D.2.1 0, 5, .inl f)) H := by
  obtain ⟨e, h1, hv⟩ := h.at hk (by decide)
  obtain ⟨f, rfl⟩ := (show hw_AI D.2.1 5 e from h1)
  exact ⟨f, hv⟩
theorem hw_HT.a72 {D : hw_D} {G : Nat → Nat} {H : Heap} {a : Nat} (h : hw_HT D G H) (hk : G a = 72) : ∃ f : Nat → Int32, va_at D.1 vwCl (a, .inl (D.2.1 0, 4, .inl f)) H := by
  obtain ⟨e, h1, hv⟩ := h.at hk (by decide)
  obtain ⟨f, rfl⟩ := (show hw_AI D.2.1 4 e from h1)
  exact ⟨f, hv⟩
theorem hw_HT.a73 {D : hw_D} {G : Nat → Nat} {H : Heap} {a : Nat} (h : hw_HT D G H) (hk : G a = 73) : ∃ f : Nat → Int32, va_at D.1 vwCl (a, .inl (D.2.1 0, 4, .inl f)) H := by
  obtain ⟨e, h1, hv⟩ := h.at hk (by decide)
  obtain ⟨f, rfl⟩ := (show hw_AI D.2.1 4 e from h1)
  exact ⟨f, hv⟩
theorem hw_HT.a74 {D : hw_D} {G : Nat → Nat} {H : Heap} {a : Nat} (h : hw_HT D G H) (hk : G a = 74) : ∃ f : Nat → Int32, va_at D.1 vwCl (a, .inl (D.2.1 0, 6, .inl f)) H := by
  obtain ⟨e, h1, hv⟩ := h.at hk (by decide)
  obtain ⟨f, rfl⟩ := (show hw_AI D.2.1 6 e from h1)
  exact ⟨f, hv⟩
theorem hw_HT.a75 {D : hw_D} {G : Nat → Nat} {H : Heap} {a : Nat} (h : hw_HT D G H) (hk : G a = 75) : ∃ f : Nat → Int32, va_at D.1 vwCl (a, .inl (D.2.1 0, 4, .inl f)) H := by
  obtain ⟨e, h1, hv⟩ := h.at hk (by decide)
  obtain ⟨f, rfl⟩ := (show hw_AI D.2.1 4 e from h1)
  exact ⟨f, hv⟩
theorem hw_HT.a76 {D : hw_D} {G : Nat → Nat} {H : Heap} {a : Nat} (h : hw_HT D G H) (hk : G a = 76) : ∃ f : Nat → Int32, va_at D.1 vwCl (a, .inl (D.2.1 0, 1024, .inl f)) H := by
  obtain ⟨e, h1, hv⟩ := h.at hk (by decide)
  obtain ⟨f, rfl⟩ := (show hw_AI D.2.1 1024 e from h1)
  exact ⟨f, hv⟩
theorem hw_HT.a77 {D : hw_D} {G : Nat → Nat} {H : Heap} {a : Nat} (h : hw_HT D G H) (hk : G a = 77) : ∃ f : Nat → Int32, va_at D.1 vwCl (a, .inl (D.2.1 0, 896, .inl f)) H := by
  obtain ⟨e, h1, hv⟩ := h.at hk (by decide)
  obtain ⟨f, rfl⟩ := (show hw_AI D.2.1 896 e from h1)
  exact ⟨f, hv⟩
theorem hw_HT.a78 {D : hw_D} {G : Nat → Nat} {H : Heap} {a : Nat} (h : hw_HT D G H) (hk : G a = 78) : ∃ f : Nat → Int32, va_at D.1 vwCl (a, .inl (D.2.1 0, 128, .inl f)) H := by
  obtain ⟨e, h1, hv⟩ := h.at hk (by decide)
  obtain ⟨f, rfl⟩ := (show hw_AI D.2.1 128 e from h1)
  exact ⟨f, hv⟩
theorem hw_HT.a79 {D : hw_D} {G : Nat → Nat} {H : Heap} {a : Nat} (h : hw_HT D G H) (hk : G a = 79) : ∃ f : Nat → Int32, va_at D.1 vwCl (a, .inl (D.2.1 0, 128, .inl f)) H := by
  obtain ⟨e, h1, hv⟩ := h.at hk (by decide)
  obtain ⟨f, rfl⟩ := (show hw_AI D.2.1 128 e from h1)
  exact ⟨f, hv⟩
theorem hw_HT.a80 {D : hw_D} {G : Nat → Nat} {H : Heap} {a : Nat} (h : hw_HT D G H) (hk : G a = 80) : ∃ f : Nat → Int32, va_at D.1 vwCl (a, .inl (D.2.1 0, 128, .inl f)) H := by
  obtain ⟨e, h1, hv⟩ := h.at hk (by decide)
  obtain ⟨f, rfl⟩ := (show hw_AI D.2.1 128 e from h1)
  exact ⟨f, hv⟩
theorem hw_HT.a81 {D : hw_D} {G : Nat → Nat} {H : Heap} {a : Nat} (h : hw_HT D G H) (hk : G a = 81) : ∃ f : Nat → Int32, va_at D.1 vwCl (a, .inl (D.2.1 0, 4, .inl f)) H := by
  obtain ⟨e, h1, hv⟩ := h.at hk (by decide)
  obtain ⟨f, rfl⟩ := (show hw_AI D.2.1 4 e from h1)
  exact ⟨f, hv⟩
theorem hw_HT.a82 {D : hw_D} {G : Nat → Nat} {H : Heap} {a : Nat} (h : hw_HT D G H) (hk : G a = 82) : ∃ f : Nat → Int32, va_at D.1 vwCl (a, .inl (D.2.1 0, 4, .inl f)) H ∧ ∀ j, j < 4 → (-1) ≤ (f j).toInt ∧ (f j).toInt ≤ 24 := by
  obtain ⟨e, h1, hv⟩ := h.at hk (by decide)
  obtain ⟨f, rfl, h2⟩ := (show hw_AIr D.2.1 4 (-1) 24 e from h1)
  exact ⟨f, hv, h2⟩
theorem hw_HT.a83 {D : hw_D} {G : Nat → Nat} {H : Heap} {a : Nat} (h : hw_HT D G H) (hk : G a = 83) : ∃ f : Nat → Int64, va_at D.1 vwCl (a, .inl (D.2.1 1, 96, .inr (.inl f))) H := by
  obtain ⟨e, h1, hv⟩ := h.at hk (by decide)
  obtain ⟨f, rfl⟩ := (show hw_AL D.2.1 96 e from h1)
  exact ⟨f, hv⟩
theorem hw_HT.a84 {D : hw_D} {G : Nat → Nat} {H : Heap} {a : Nat} (h : hw_HT D G H) (hk : G a = 84) : ∃ f : Nat → Int64, va_at D.1 vwCl (a, .inl (D.2.1 1, 24, .inr (.inl f))) H := by
  obtain ⟨e, h1, hv⟩ := h.at hk (by decide)
  obtain ⟨f, rfl⟩ := (show hw_AL D.2.1 24 e from h1)
  exact ⟨f, hv⟩
theorem hw_HT.a127 {D : hw_D} {G : Nat → Nat} {H : Heap} {a : Nat} (h : hw_HT D G H) (hk : G a = 127) : ∃ f : Nat → Option Nat, va_at D.1 vwCl (a, .inl (D.2.1 5, 8, .inr (.inr (.inr (.inr f))))) H ∧ ∀ j b, j < 8 → f j = some b → G b = 7 := by
  obtain ⟨e, h1, hv⟩ := h.at hk (by decide)
  obtain ⟨f, rfl, h2⟩ := (show hw_AQ D.2.1 5 8 G 7 e from h1)
  exact ⟨f, hv, h2⟩
theorem hw_HT.a128 {D : hw_D} {G : Nat → Nat} {H : Heap} {a : Nat} (h : hw_HT D G H) (hk : G a = 128) : ∃ f : Nat → Option Nat, va_at D.1 vwCl (a, .inl (D.2.1 5, 2, .inr (.inr (.inr (.inr f))))) H ∧ ∀ j b, j < 2 → f j = some b → G b = 7 := by
  obtain ⟨e, h1, hv⟩ := h.at hk (by decide)
  obtain ⟨f, rfl, h2⟩ := (show hw_AQ D.2.1 5 2 G 7 e from h1)
  exact ⟨f, hv, h2⟩
theorem hw_HT.a129 {D : hw_D} {G : Nat → Nat} {H : Heap} {a : Nat} (h : hw_HT D G H) (hk : G a = 129) : ∃ f : Nat → Option Nat, va_at D.1 vwCl (a, .inl (D.2.1 6, 2, .inr (.inr (.inr (.inr f))))) H ∧ ∀ j b, j < 2 → f j = some b → G b = 8 := by
  obtain ⟨e, h1, hv⟩ := h.at hk (by decide)
  obtain ⟨f, rfl, h2⟩ := (show hw_AQ D.2.1 6 2 G 8 e from h1)
  exact ⟨f, hv, h2⟩
theorem hw_HT.a132 {D : hw_D} {G : Nat → Nat} {H : Heap} {a : Nat} (h : hw_HT D G H) (hk : G a = 132) : ∃ f : Nat → Option Nat, va_at D.1 vwCl (a, .inl (D.2.1 7, 4, .inr (.inr (.inr (.inr f))))) H ∧ ∀ j b, j < 4 → f j = some b → G b = 6 := by
  obtain ⟨e, h1, hv⟩ := h.at hk (by decide)
  obtain ⟨f, rfl, h2⟩ := (show hw_AQ D.2.1 7 4 G 6 e from h1)
  exact ⟨f, hv, h2⟩
