theorem goodIn_e {big : List Cond} {P : List (List Cond)} (hP : ∀ l ∈ P, ∀ w ∈ l, w ∈ big) (ws : List Cond) (ps : List (Nat × Nat)) (hp : ws = ps.filterMap (fun p => (P.getD p.1 [])[p.2]?)) (h : ws.all goodWord = true) : GoodIn big ws := by
  refine goodIn_sub (fun w hw => ?_) h
  rw [hp] at hw
  obtain ⟨q, -, hi⟩ := List.mem_filterMap.mp hw
  have hm : w ∈ P.getD q.1 [] := by first | exact List.mem_of_getElem? hi | exact List.getElem?_mem hi
  rcases Nat.lt_or_ge q.1 P.length with h1 | h1
  · have e : P.getD q.1 [] = P[q.1] := by rw [List.getD_eq_getElem?_getD, List.getElem?_eq_getElem h1]; rfl
    rw [e] at hm
    exact hP _ (List.getElem_mem h1) w hm
  · have e : P.getD q.1 [] = [] := by rw [List.getD_eq_getElem?_getD, List.getElem?_eq_none h1]; rfl
    rw [e] at hm
    exact absurd hm (List.not_mem_nil)
def tb_ps : List (List Cond) := [k2_sels lw_privs, tables_1_1, tables_1_2, tables_1_3, tables_1_4, tables_1_5, tables_1_6]
theorem tb_in0 : ∀ w ∈ k2_sels lw_privs, w ∈ lw_tbl := fun w h => show w ∈ k2_sels lw_privs ++ (tables_1_1 ++ (tables_1_2 ++ (tables_1_3 ++ (tables_1_4 ++ (tables_1_5 ++ tables_1_6))))) from List.mem_append_left _ h
theorem tb_in1 : ∀ w ∈ tables_1_1, w ∈ lw_tbl := fun w h => show w ∈ k2_sels lw_privs ++ (tables_1_1 ++ (tables_1_2 ++ (tables_1_3 ++ (tables_1_4 ++ (tables_1_5 ++ tables_1_6))))) from (List.mem_append_right _ (List.mem_append_left _ h))
theorem tb_in2 : ∀ w ∈ tables_1_2, w ∈ lw_tbl := fun w h => show w ∈ k2_sels lw_privs ++ (tables_1_1 ++ (tables_1_2 ++ (tables_1_3 ++ (tables_1_4 ++ (tables_1_5 ++ tables_1_6))))) from (List.mem_append_right _ (List.mem_append_right _ (List.mem_append_left _ h)))
theorem tb_in3 : ∀ w ∈ tables_1_3, w ∈ lw_tbl := fun w h => show w ∈ k2_sels lw_privs ++ (tables_1_1 ++ (tables_1_2 ++ (tables_1_3 ++ (tables_1_4 ++ (tables_1_5 ++ tables_1_6))))) from (List.mem_append_right _ (List.mem_append_right _ (List.mem_append_right _ (List.mem_append_left _ h))))
theorem tb_in4 : ∀ w ∈ tables_1_4, w ∈ lw_tbl := fun w h => show w ∈ k2_sels lw_privs ++ (tables_1_1 ++ (tables_1_2 ++ (tables_1_3 ++ (tables_1_4 ++ (tables_1_5 ++ tables_1_6))))) from (List.mem_append_right _ (List.mem_append_right _ (List.mem_append_right _ (List.mem_append_right _ (List.mem_append_left _ h)))))
theorem tb_in5 : ∀ w ∈ tables_1_5, w ∈ lw_tbl := fun w h => show w ∈ k2_sels lw_privs ++ (tables_1_1 ++ (tables_1_2 ++ (tables_1_3 ++ (tables_1_4 ++ (tables_1_5 ++ tables_1_6))))) from (List.mem_append_right _ (List.mem_append_right _ (List.mem_append_right _ (List.mem_append_right _ (List.mem_append_right _ (List.mem_append_left _ h))))))
theorem tb_in6 : ∀ w ∈ tables_1_6, w ∈ lw_tbl := fun w h => show w ∈ k2_sels lw_privs ++ (tables_1_1 ++ (tables_1_2 ++ (tables_1_3 ++ (tables_1_4 ++ (tables_1_5 ++ tables_1_6))))) from (List.mem_append_right _ (List.mem_append_right _ (List.mem_append_right _ (List.mem_append_right _ (List.mem_append_right _ (List.mem_append_right _ h))))))
theorem tb_ps_in : ∀ l ∈ tb_ps, ∀ w ∈ l, w ∈ lw_tbl := List.forall_mem_cons.mpr ⟨tb_in0, List.forall_mem_cons.mpr ⟨tb_in1, List.forall_mem_cons.mpr ⟨tb_in2, List.forall_mem_cons.mpr ⟨tb_in3, List.forall_mem_cons.mpr ⟨tb_in4, List.forall_mem_cons.mpr ⟨tb_in5, List.forall_mem_cons.mpr ⟨tb_in6, (fun l h => absurd h (List.not_mem_nil))⟩⟩⟩⟩⟩⟩⟩
set_option maxRecDepth 20000 in
theorem wl_wsL_law_r1 : ∀ w ∈ wsL_law_r1, w ∈ lw_tbl := fun w h => (goodIn_e tb_ps_in wsL_law_r1 [(1, 20), (1, 21), (1, 1), (4, 194), (4, 195), (1, 7), (6, 191), (1, 22), (1, 23), (1, 24), (1, 25), (1, 26), (1, 27), (1, 28), (1, 29), (1, 2), (1, 192), (1, 70), (1, 71), (1, 3), (1, 193), (1, 109), (1, 110), (1, 4)] rfl (by decide +kernel) w h).1
set_option maxRecDepth 20000 in
theorem wl_wsL_law_r2 : ∀ w ∈ wsL_law_r2, w ∈ lw_tbl := fun w h => (goodIn_e tb_ps_in wsL_law_r2 [(1, 194), (1, 195), (1, 198), (1, 199), (1, 69), (1, 201), (1, 202), (1, 142), (1, 143), (1, 5), (1, 204), (1, 172), (1, 205), (1, 174), (1, 6), (1, 31), (1, 32), (1, 33), (1, 34), (1, 38), (1, 36), (1, 42), (1, 47), (1, 52)] rfl (by decide +kernel) w h).1
set_option maxRecDepth 20000 in
theorem wl_wsL_law_r3 : ∀ w ∈ wsL_law_r3, w ∈ lw_tbl := fun w h => (goodIn_e tb_ps_in wsL_law_r3 [(1, 73), (1, 74), (1, 75), (1, 76), (1, 81), (1, 82), (1, 112), (1, 113), (1, 114), (1, 121), (1, 122), (1, 123), (1, 124), (1, 145), (1, 146), (1, 147), (1, 148), (1, 150), (1, 151), (1, 154), (1, 155), (1, 156), (1, 176), (1, 177)] rfl (by decide +kernel) w h).1
set_option maxRecDepth 20000 in
theorem wl_wsL_law_r4 : ∀ w ∈ wsL_law_r4, w ∈ lw_tbl := fun w h => (goodIn_e tb_ps_in wsL_law_r4 [(1, 178), (1, 191), (1, 179), (1, 180), (4, 196), (4, 197), (4, 198), (4, 199), (4, 200), (5, 96), (4, 202), (4, 204), (4, 205), (4, 206), (4, 208), (4, 209), (4, 210), (4, 211), (4, 213), (4, 214), (4, 215), (4, 218), (4, 219), (4, 227)] rfl (by decide +kernel) w h).1
set_option maxRecDepth 20000 in
theorem wl_wsL_law_r5 : ∀ w ∈ wsL_law_r5, w ∈ lw_tbl := fun w h => (goodIn_e tb_ps_in wsL_law_r5 [(4, 228), (4, 229), (4, 230), (4, 231), (4, 232), (4, 233), (4, 234), (4, 235), (4, 236), (4, 237), (4, 238), (4, 239), (5, 0), (5, 1), (5, 2), (5, 3), (5, 4), (1, 235), (1, 236), (1, 237), (1, 238), (1, 78), (1, 239), (2, 0)] rfl (by decide +kernel) w h).1
set_option maxRecDepth 20000 in
theorem wl_wsL_law_r6 : ∀ w ∈ wsL_law_r6, w ∈ lw_tbl := fun w h => (goodIn_e tb_ps_in wsL_law_r6 [(2, 1), (2, 2), (1, 77), (2, 3), (2, 4), (2, 5), (2, 6), (2, 7), (5, 97), (5, 98), (5, 99), (5, 100), (5, 101), (4, 216), (5, 102), (5, 103), (5, 104), (2, 8), (2, 9), (2, 10), (2, 11), (5, 105), (5, 106), (5, 107)] rfl (by decide +kernel) w h).1
set_option maxRecDepth 20000 in
theorem wl_wsL_law_r7 : ∀ w ∈ wsL_law_r7, w ∈ lw_tbl := fun w h => (goodIn_e tb_ps_in wsL_law_r7 [(5, 108), (2, 12), (2, 13), (2, 14), (2, 15), (2, 16), (2, 17), (2, 18), (2, 19), (1, 80), (1, 84), (1, 40), (1, 85), (1, 44), (1, 86), (1, 50), (1, 87), (1, 83), (2, 20), (2, 22), (0, 0), (2, 23), (2, 24), (2, 26)] rfl (by decide +kernel) w h).1
set_option maxRecDepth 20000 in
theorem wl_wsL_law_r8 : ∀ w ∈ wsL_law_r8, w ∈ lw_tbl := fun w h => (goodIn_e tb_ps_in wsL_law_r8 [(0, 1), (2, 27), (2, 28), (2, 29), (2, 30), (2, 31), (2, 33), (0, 2), (2, 34), (2, 106), (2, 35), (2, 37), (0, 3), (2, 38), (2, 39), (2, 40), (2, 41), (2, 50), (2, 52), (0, 4), (2, 53), (2, 54), (2, 55), (2, 56)] rfl (by decide +kernel) w h).1
set_option maxRecDepth 20000 in
theorem wl_wsL_law_r9 : ∀ w ∈ wsL_law_r9, w ∈ lw_tbl := fun w h => (goodIn_e tb_ps_in wsL_law_r9 [(1, 8), (2, 57), (6, 200), (2, 58), (2, 59), (2, 60), (2, 61), (2, 62), (6, 201), (2, 64), (2, 65), (2, 66), (2, 67), (2, 68), (2, 69), (2, 70), (2, 71), (2, 72), (2, 73), (1, 9), (2, 74), (2, 75), (2, 76), (2, 77)] rfl (by decide +kernel) w h).1
set_option maxRecDepth 20000 in
theorem wl_wsL_law_r10 : ∀ w ∈ wsL_law_r10, w ∈ lw_tbl := fun w h => (goodIn_e tb_ps_in wsL_law_r10 [(2, 78), (2, 80), (2, 81), (1, 10), (2, 82), (2, 83), (2, 84), (1, 11), (2, 85), (2, 86), (2, 87), (2, 88), (2, 89), (2, 90), (2, 91), (2, 92), (2, 93), (2, 94), (2, 95), (2, 96), (2, 98), (2, 100), (2, 102), (2, 104)] rfl (by decide +kernel) w h).1
set_option maxRecDepth 20000 in
theorem wl_wsL_law_r11 : ∀ w ∈ wsL_law_r11, w ∈ lw_tbl := fun w h => (goodIn_e tb_ps_in wsL_law_r11 [(0, 5), (2, 105), (2, 108), (2, 110), (0, 6), (2, 111), (5, 109), (5, 110), (5, 111), (5, 112), (4, 220), (5, 113), (5, 115), (0, 27), (5, 116), (4, 226), (4, 221), (4, 225), (4, 203), (4, 222), (4, 207), (4, 223), (4, 212), (4, 224)] rfl (by decide +kernel) w h).1
set_option maxRecDepth 20000 in
theorem wl_wsL_law_r12 : ∀ w ∈ wsL_law_r12, w ∈ lw_tbl := fun w h => (goodIn_e tb_ps_in wsL_law_r12 [(5, 117), (5, 119), (0, 28), (5, 120), (5, 121), (5, 122), (5, 123), (5, 124), (5, 125), (5, 126), (5, 127), (5, 128), (5, 129), (5, 130), (5, 131), (5, 133), (0, 29), (5, 134), (5, 135), (5, 137), (0, 30), (5, 138), (5, 139), (5, 141)] rfl (by decide +kernel) w h).1
set_option maxRecDepth 20000 in
theorem wl_wsL_law_r13 : ∀ w ∈ wsL_law_r13, w ∈ lw_tbl := fun w h => (goodIn_e tb_ps_in wsL_law_r13 [(0, 31), (5, 142), (5, 143), (5, 145), (0, 32), (5, 146), (5, 147), (5, 149), (0, 33), (5, 150), (5, 151), (5, 153), (0, 34), (5, 154), (5, 155), (5, 157), (0, 35), (5, 158), (5, 159), (5, 161), (0, 36), (5, 162), (5, 163), (5, 165)] rfl (by decide +kernel) w h).1
set_option maxRecDepth 20000 in
theorem wl_wsL_law_r14 : ∀ w ∈ wsL_law_r14, w ∈ lw_tbl := fun w h => (goodIn_e tb_ps_in wsL_law_r14 [(0, 37), (5, 166), (5, 167), (5, 169), (0, 38), (5, 170), (2, 113), (2, 114), (2, 115), (2, 116), (1, 79), (1, 203), (1, 200), (1, 197), (2, 117), (2, 119), (0, 7), (2, 120), (2, 133), (2, 134), (1, 13), (2, 159), (2, 160), (1, 14)] rfl (by decide +kernel) w h).1
set_option maxRecDepth 20000 in
theorem wl_wsL_law_r15 : ∀ w ∈ wsL_law_r15, w ∈ lw_tbl := fun w h => (goodIn_e tb_ps_in wsL_law_r15 [(2, 168), (2, 169), (1, 15), (2, 177), (2, 178), (1, 16), (2, 186), (2, 187), (1, 17), (1, 53), (2, 121), (2, 122), (2, 123), (2, 124), (2, 125), (2, 126), (2, 127), (2, 128), (2, 129), (2, 130), (2, 131), (2, 132), (1, 39), (1, 43)] rfl (by decide +kernel) w h).1
set_option maxRecDepth 20000 in
theorem wl_wsL_law_r16 : ∀ w ∈ wsL_law_r16, w ∈ lw_tbl := fun w h => (goodIn_e tb_ps_in wsL_law_r16 [(1, 49), (2, 135), (2, 136), (2, 137), (2, 138), (2, 139), (1, 12), (2, 140), (2, 141), (2, 142), (2, 144), (2, 155), (2, 156), (2, 157), (2, 158), (2, 161), (2, 162), (2, 163), (2, 164), (2, 170), (2, 171), (2, 172), (2, 173), (2, 179)] rfl (by decide +kernel) w h).1
set_option maxRecDepth 20000 in
theorem wl_wsL_law_r17 : ∀ w ∈ wsL_law_r17, w ∈ lw_tbl := fun w h => (goodIn_e tb_ps_in wsL_law_r17 [(2, 180), (2, 181), (2, 182), (2, 188), (2, 189), (2, 190), (2, 191), (2, 192), (2, 195), (2, 197), (2, 199), (2, 210), (2, 211), (2, 212), (2, 213), (2, 214), (2, 215), (2, 216), (2, 217), (2, 218), (2, 219), (2, 220), (2, 221), (1, 115)] rfl (by decide +kernel) w h).1
set_option maxRecDepth 20000 in
theorem wl_wsL_law_r18 : ∀ w ∈ wsL_law_r18, w ∈ lw_tbl := fun w h => (goodIn_e tb_ps_in wsL_law_r18 [(1, 117), (1, 119), (1, 48), (5, 171), (5, 172), (5, 173), (5, 174), (4, 201), (4, 217), (2, 222), (2, 223), (2, 224), (2, 225), (2, 143), (2, 149), (2, 226), (2, 227), (2, 228), (2, 229), (2, 230), (2, 232), (2, 233), (2, 234), (2, 235)] rfl (by decide +kernel) w h).1
set_option maxRecDepth 20000 in
theorem wl_wsL_law_r19 : ∀ w ∈ wsL_law_r19, w ∈ lw_tbl := fun w h => (goodIn_e tb_ps_in wsL_law_r19 [(2, 236), (2, 237), (2, 238), (2, 239), (3, 0), (3, 1), (3, 2), (3, 3), (3, 4), (3, 5), (3, 6), (3, 7), (3, 8), (3, 9), (3, 10), (3, 11), (3, 12), (3, 13), (3, 15), (3, 16), (3, 17), (3, 18), (3, 19), (3, 20)] rfl (by decide +kernel) w h).1
set_option maxRecDepth 20000 in
theorem wl_wsL_law_r20 : ∀ w ∈ wsL_law_r20, w ∈ lw_tbl := fun w h => (goodIn_e tb_ps_in wsL_law_r20 [(3, 22), (3, 25), (3, 26), (3, 23), (3, 24), (3, 27), (3, 28), (3, 29), (2, 145), (2, 146), (3, 30), (3, 31), (3, 32), (3, 33), (3, 34), (3, 35), (3, 36), (2, 147), (2, 148), (3, 37), (6, 192), (2, 167), (3, 38), (3, 40)] rfl (by decide +kernel) w h).1
set_option maxRecDepth 20000 in
theorem wl_wsL_law_r21 : ∀ w ∈ wsL_law_r21, w ∈ lw_tbl := fun w h => (goodIn_e tb_ps_in wsL_law_r21 [(0, 8), (3, 41), (5, 175), (5, 176), (5, 177), (5, 178), (5, 179), (5, 181), (0, 39), (5, 182), (5, 183), (5, 185), (0, 40), (5, 186), (5, 187), (5, 188), (5, 189), (5, 190), (5, 191), (5, 192), (5, 193), (5, 194), (5, 195), (5, 196)] rfl (by decide +kernel) w h).1
set_option maxRecDepth 20000 in
theorem wl_wsL_law_r22 : ∀ w ∈ wsL_law_r22, w ∈ lw_tbl := fun w h => (goodIn_e tb_ps_in wsL_law_r22 [(5, 198), (0, 41), (5, 199), (3, 42), (3, 43), (3, 44), (3, 45), (2, 193), (2, 196), (2, 198), (2, 200), (3, 46), (3, 47), (3, 48), (3, 49), (3, 50), (3, 51), (3, 52), (3, 53), (5, 200), (5, 201), (5, 202), (5, 203), (5, 204)] rfl (by decide +kernel) w h).1
set_option maxRecDepth 20000 in
theorem wl_wsL_law_r23 : ∀ w ∈ wsL_law_r23, w ∈ lw_tbl := fun w h => (goodIn_e tb_ps_in wsL_law_r23 [(5, 206), (0, 42), (5, 207), (3, 54), (3, 55), (3, 56), (3, 57), (3, 58), (3, 59), (3, 60), (3, 61), (3, 62), (3, 63), (3, 64), (3, 65), (3, 66), (3, 67), (3, 68), (3, 69), (5, 208), (5, 209), (5, 210), (5, 211), (5, 212)] rfl (by decide +kernel) w h).1
set_option maxRecDepth 20000 in
theorem wl_wsL_law_r24 : ∀ w ∈ wsL_law_r24, w ∈ lw_tbl := fun w h => (goodIn_e tb_ps_in wsL_law_r24 [(5, 214), (0, 43), (5, 215), (3, 70), (3, 71), (3, 72), (3, 73), (3, 74), (3, 75), (3, 76), (3, 77), (3, 78), (3, 79), (1, 18), (3, 80), (3, 81), (3, 82), (3, 83), (3, 84), (3, 85), (3, 86), (3, 87), (3, 88), (3, 89)] rfl (by decide +kernel) w h).1
set_option maxRecDepth 20000 in
theorem wl_wsL_law_r25 : ∀ w ∈ wsL_law_r25, w ∈ lw_tbl := fun w h => (goodIn_e tb_ps_in wsL_law_r25 [(3, 90), (3, 91), (3, 92), (3, 93), (3, 94), (3, 95), (3, 97), (3, 98), (3, 99), (3, 100), (3, 101), (3, 102), (3, 103), (3, 104), (3, 105), (3, 106), (3, 107), (3, 108), (3, 109), (3, 110), (6, 193), (5, 216), (5, 217), (5, 218)] rfl (by decide +kernel) w h).1
set_option maxRecDepth 20000 in
theorem wl_wsL_law_r26 : ∀ w ∈ wsL_law_r26, w ∈ lw_tbl := fun w h => (goodIn_e tb_ps_in wsL_law_r26 [(5, 219), (5, 220), (5, 221), (5, 222), (5, 223), (5, 225), (0, 44), (5, 226), (5, 227), (5, 229), (0, 45), (5, 230), (5, 231), (5, 232), (5, 233), (3, 111), (3, 112), (3, 113), (3, 114), (3, 115), (3, 116), (3, 117), (2, 133), (2, 159)] rfl (by decide +kernel) w h).1
set_option maxRecDepth 20000 in
theorem wl_wsL_law_r27 : ∀ w ∈ wsL_law_r27, w ∈ lw_tbl := fun w h => (goodIn_e tb_ps_in wsL_law_r27 [(2, 168), (2, 177), (3, 118), (5, 234), (5, 235), (5, 236), (5, 237), (5, 238), (3, 119), (3, 120), (3, 121), (3, 122), (3, 123), (3, 124), (3, 125), (3, 126), (3, 127), (1, 19), (3, 128), (3, 129), (3, 131), (0, 9), (3, 132), (1, 196)] rfl (by decide +kernel) w h).1
set_option maxRecDepth 20000 in
theorem wl_wsL_law_r28 : ∀ w ∈ wsL_law_r28, w ∈ lw_tbl := fun w h => (goodIn_e tb_ps_in wsL_law_r28 [(3, 144), (3, 145), (3, 146), (3, 133), (3, 135), (0, 10), (3, 136), (3, 137), (3, 138), (1, 19), (3, 139), (3, 140), (3, 141), (3, 142), (3, 143), (3, 147), (3, 148), (3, 149), (3, 150), (3, 151), (3, 152), (3, 153), (3, 154), (3, 155)] rfl (by decide +kernel) w h).1
set_option maxRecDepth 20000 in
theorem wl_wsL_law_r29 : ∀ w ∈ wsL_law_r29, w ∈ lw_tbl := fun w h => (goodIn_e tb_ps_in wsL_law_r29 [(3, 156), (3, 157), (3, 158), (3, 159), (3, 160), (3, 161), (3, 162), (5, 239), (6, 0), (6, 1), (6, 2), (6, 3), (6, 4), (6, 5), (6, 6), (6, 8), (0, 46), (6, 9), (6, 10), (6, 12), (0, 47), (6, 13), (3, 163), (3, 164)] rfl (by decide +kernel) w h).1
set_option maxRecDepth 20000 in
theorem wl_wsL_law_r30 : ∀ w ∈ wsL_law_r30, w ∈ lw_tbl := fun w h => (goodIn_e tb_ps_in wsL_law_r30 [(3, 165), (3, 166), (3, 167), (3, 168), (3, 169), (3, 170), (6, 14), (6, 15), (6, 16), (6, 17), (3, 171), (3, 172), (3, 173), (3, 174), (3, 175), (3, 176), (3, 177), (3, 178), (6, 18), (6, 19), (6, 20), (6, 21), (3, 179), (3, 180)] rfl (by decide +kernel) w h).1
set_option maxRecDepth 20000 in
theorem wl_wsL_law_r31 : ∀ w ∈ wsL_law_r31, w ∈ lw_tbl := fun w h => (goodIn_e tb_ps_in wsL_law_r31 [(3, 181), (3, 182), (1, 116), (3, 183), (3, 184), (3, 185), (3, 186), (6, 22), (6, 23), (6, 24), (6, 25), (3, 187), (3, 188), (3, 189), (3, 190), (6, 26), (6, 27), (6, 28), (6, 29), (3, 191), (3, 192), (3, 193), (3, 194), (3, 195)] rfl (by decide +kernel) w h).1
set_option maxRecDepth 20000 in
theorem wl_wsL_law_r32 : ∀ w ∈ wsL_law_r32, w ∈ lw_tbl := fun w h => (goodIn_e tb_ps_in wsL_law_r32 [(3, 196), (3, 197), (3, 198), (6, 30), (6, 31), (6, 32), (6, 33), (3, 199), (3, 200), (3, 201), (3, 202), (6, 34), (6, 35), (6, 36), (6, 37), (3, 203), (3, 204), (3, 205), (3, 206), (3, 207), (3, 209), (0, 11), (3, 210), (1, 46)] rfl (by decide +kernel) w h).1
set_option maxRecDepth 20000 in
theorem wl_wsL_law_r33 : ∀ w ∈ wsL_law_r33, w ∈ lw_tbl := fun w h => (goodIn_e tb_ps_in wsL_law_r33 [(6, 38), (6, 39), (6, 40), (6, 41), (6, 42), (6, 44), (0, 48), (6, 45), (3, 211), (3, 212), (3, 213), (3, 214), (3, 215), (3, 217), (0, 12), (3, 218), (1, 41), (6, 46), (6, 47), (6, 48), (6, 49), (3, 219), (3, 220), (3, 221)] rfl (by decide +kernel) w h).1
set_option maxRecDepth 20000 in
theorem wl_wsL_law_r34 : ∀ w ∈ wsL_law_r34, w ∈ lw_tbl := fun w h => (goodIn_e tb_ps_in wsL_law_r34 [(3, 222), (3, 223), (3, 225), (0, 13), (3, 226), (6, 50), (6, 51), (6, 52), (6, 53), (6, 54), (6, 55), (3, 227), (3, 228), (3, 229), (3, 230), (1, 149), (1, 153), (3, 231), (3, 233), (0, 14), (3, 234), (3, 235), (3, 237), (0, 15)] rfl (by decide +kernel) w h).1
set_option maxRecDepth 20000 in
theorem wl_wsL_law_r35 : ∀ w ∈ wsL_law_r35, w ∈ lw_tbl := fun w h => (goodIn_e tb_ps_in wsL_law_r35 [(3, 238), (3, 239), (4, 0), (4, 1), (4, 2), (1, 152), (4, 3), (4, 5), (0, 16), (4, 6), (4, 11), (4, 12), (4, 13), (4, 7), (4, 9), (0, 17), (4, 10), (4, 14), (4, 16), (0, 18), (4, 17), (4, 18), (4, 19), (4, 20)] rfl (by decide +kernel) w h).1
set_option maxRecDepth 20000 in
theorem wl_wsL_law_r36 : ∀ w ∈ wsL_law_r36, w ∈ lw_tbl := fun w h => (goodIn_e tb_ps_in wsL_law_r36 [(4, 21), (6, 56), (6, 57), (6, 58), (6, 59), (6, 60), (6, 62), (0, 49), (6, 63), (6, 64), (6, 66), (0, 50), (6, 67), (6, 68), (6, 70), (0, 51), (6, 71), (4, 22), (4, 23), (4, 24), (4, 25), (1, 51), (4, 26), (4, 27)] rfl (by decide +kernel) w h).1
set_option maxRecDepth 20000 in
theorem wl_wsL_law_r37 : ∀ w ∈ wsL_law_r37, w ∈ lw_tbl := fun w h => (goodIn_e tb_ps_in wsL_law_r37 [(4, 28), (4, 29), (4, 30), (4, 31), (4, 32), (4, 33), (4, 34), (4, 35), (4, 37), (0, 19), (4, 38), (1, 45), (2, 194), (4, 45), (4, 39), (4, 41), (4, 43), (0, 20), (4, 44), (4, 46), (4, 47), (4, 48), (4, 49), (4, 50)] rfl (by decide +kernel) w h).1
set_option maxRecDepth 20000 in
theorem wl_wsL_law_r38 : ∀ w ∈ wsL_law_r38, w ∈ lw_tbl := fun w h => (goodIn_e tb_ps_in wsL_law_r38 [(4, 51), (4, 52), (4, 53), (4, 54), (6, 72), (6, 73), (6, 74), (6, 75), (6, 76), (6, 77), (6, 78), (6, 80), (0, 52), (6, 81), (6, 82), (6, 84), (0, 53), (6, 85), (6, 86), (6, 88), (0, 54), (6, 89), (6, 90), (6, 92)] rfl (by decide +kernel) w h).1
set_option maxRecDepth 20000 in
theorem wl_wsL_law_r39 : ∀ w ∈ wsL_law_r39, w ∈ lw_tbl := fun w h => (goodIn_e tb_ps_in wsL_law_r39 [(0, 55), (6, 93), (4, 55), (4, 56), (4, 57), (4, 58), (6, 94), (6, 95), (6, 96), (6, 97), (4, 59), (4, 60), (4, 61), (4, 62), (6, 98), (6, 99), (6, 100), (6, 101), (4, 63), (4, 64), (4, 65), (4, 66), (4, 67), (4, 69)] rfl (by decide +kernel) w h).1
set_option maxRecDepth 20000 in
theorem wl_wsL_law_r40 : ∀ w ∈ wsL_law_r40, w ∈ lw_tbl := fun w h => (goodIn_e tb_ps_in wsL_law_r40 [(0, 21), (4, 70), (4, 71), (4, 72), (4, 73), (4, 74), (6, 102), (6, 103), (6, 104), (6, 105), (6, 106), (6, 107), (6, 109), (0, 56), (6, 110), (4, 75), (4, 76), (4, 77), (4, 78), (4, 79), (4, 81), (0, 22), (4, 82), (6, 111)] rfl (by decide +kernel) w h).1
set_option maxRecDepth 20000 in
theorem wl_wsL_law_r41 : ∀ w ∈ wsL_law_r41, w ∈ lw_tbl := fun w h => (goodIn_e tb_ps_in wsL_law_r41 [(6, 112), (6, 113), (6, 114), (4, 83), (4, 84), (4, 85), (4, 86), (4, 87), (4, 88), (4, 89), (4, 90), (4, 91), (4, 92), (4, 93), (4, 94), (4, 95), (4, 97), (4, 98), (4, 99), (4, 100), (4, 101), (4, 102), (4, 103), (4, 104)] rfl (by decide +kernel) w h).1
set_option maxRecDepth 20000 in
theorem wl_wsL_law_r42 : ∀ w ∈ wsL_law_r42, w ∈ lw_tbl := fun w h => (goodIn_e tb_ps_in wsL_law_r42 [(4, 105), (6, 115), (6, 116), (6, 117), (6, 118), (6, 119), (6, 120), (6, 121), (4, 106), (4, 107), (4, 108), (4, 109), (4, 110), (4, 112), (0, 23), (4, 113), (4, 114), (4, 115), (4, 116), (4, 117), (4, 118), (4, 119), (4, 120), (1, 182)] rfl (by decide +kernel) w h).1
set_option maxRecDepth 20000 in
theorem wl_wsL_law_r43 : ∀ w ∈ wsL_law_r43, w ∈ lw_tbl := fun w h => (goodIn_e tb_ps_in wsL_law_r43 [(6, 122), (6, 123), (6, 124), (6, 125), (6, 126), (6, 127), (6, 128), (6, 129), (4, 121), (4, 122), (4, 123), (4, 124), (1, 181), (4, 125), (4, 126), (4, 127), (4, 128), (4, 129), (4, 130), (4, 131), (4, 132), (4, 133), (4, 134), (4, 135)] rfl (by decide +kernel) w h).1
set_option maxRecDepth 20000 in
theorem wl_wsL_law_r44 : ∀ w ∈ wsL_law_r44, w ∈ lw_tbl := fun w h => (goodIn_e tb_ps_in wsL_law_r44 [(4, 136), (4, 137), (4, 139), (0, 24), (4, 140), (6, 130), (6, 131), (6, 132), (6, 133), (6, 134), (6, 136), (0, 57), (6, 137), (6, 138), (6, 140), (0, 58), (6, 141), (6, 142), (6, 143), (6, 144), (4, 141), (4, 142), (4, 143), (4, 144)] rfl (by decide +kernel) w h).1
set_option maxRecDepth 20000 in
theorem wl_wsL_law_r45 : ∀ w ∈ wsL_law_r45, w ∈ lw_tbl := fun w h => (goodIn_e tb_ps_in wsL_law_r45 [(4, 145), (4, 146), (4, 147), (4, 152), (4, 153), (4, 154), (4, 155), (4, 156), (4, 148), (4, 149), (4, 150), (4, 151), (6, 145), (6, 146), (6, 147), (6, 148), (6, 149), (6, 150), (6, 151), (6, 152), (6, 153), (6, 154), (6, 155), (4, 157)] rfl (by decide +kernel) w h).1
set_option maxRecDepth 20000 in
theorem wl_wsL_law_r46 : ∀ w ∈ wsL_law_r46, w ∈ lw_tbl := fun w h => (goodIn_e tb_ps_in wsL_law_r46 [(4, 158), (4, 159), (4, 160), (6, 156), (6, 157), (6, 158), (6, 159), (4, 161), (4, 162), (4, 163), (4, 164), (1, 183), (6, 160), (6, 161), (6, 162), (6, 163), (4, 165), (4, 166), (4, 167), (4, 168), (4, 169), (4, 170), (4, 171), (4, 176)] rfl (by decide +kernel) w h).1
set_option maxRecDepth 20000 in
theorem wl_wsL_law_r47 : ∀ w ∈ wsL_law_r47, w ∈ lw_tbl := fun w h => (goodIn_e tb_ps_in wsL_law_r47 [(4, 172), (4, 173), (4, 174), (4, 175), (6, 164), (6, 165), (6, 166), (6, 167), (6, 168), (6, 169), (6, 170), (4, 177), (4, 178), (4, 179), (4, 180), (6, 171), (6, 172), (6, 173), (6, 174), (4, 181), (4, 182), (4, 183), (4, 184), (1, 120)] rfl (by decide +kernel) w h).1
set_option maxRecDepth 20000 in
theorem wl_wsL_law_r48 : ∀ w ∈ wsL_law_r48, w ∈ lw_tbl := fun w h => (goodIn_e tb_ps_in wsL_law_r48 [(1, 118), (4, 185), (4, 187), (0, 25), (4, 188), (4, 189), (4, 190), (4, 192), (0, 26), (4, 193), (6, 175), (6, 176), (6, 177), (6, 178), (6, 179), (6, 181), (0, 59), (6, 182), (6, 183), (6, 185), (0, 60), (6, 186), (6, 187), (6, 189)] rfl (by decide +kernel) w h).1
set_option maxRecDepth 20000 in
theorem wl_wsL_law_r49 : ∀ w ∈ wsL_law_r49, w ∈ lw_tbl := fun w h => (goodIn_e tb_ps_in wsL_law_r49 [(0, 61), (6, 190)] rfl (by decide +kernel) w h).1
set_option maxRecDepth 20000 in
theorem wl_wsX110 : ∀ w ∈ wsX110, w ∈ lw_tbl := fun w h => (goodIn_e tb_ps_in wsX110 [(1, 206), (1, 208), (1, 210), (1, 212), (1, 214), (1, 216), (1, 218), (1, 220), (1, 222), (1, 224), (1, 226), (1, 228), (1, 230), (1, 232)] rfl (by decide +kernel) w h).1
set_option maxRecDepth 20000 in
theorem wl_wsX120 : ∀ w ∈ wsX120, w ∈ lw_tbl := fun w h => (goodIn_e tb_ps_in wsX120 [(5, 5), (5, 7), (5, 9), (5, 11), (5, 13), (5, 15), (5, 17), (5, 19), (5, 21), (5, 23), (5, 25), (5, 27), (5, 29), (5, 31), (5, 33), (5, 35), (5, 37), (5, 39), (5, 41), (5, 43), (5, 45), (5, 47), (5, 49), (5, 51), (5, 53), (5, 55), (5, 57), (5, 59), (5, 61), (5, 63), (5, 65), (5, 67), (5, 69), (5, 71), (5, 73), (5, 75), (5, 77), (5, 79), (5, 81), (5, 83), (5, 85), (5, 87), (5, 89), (5, 91), (5, 93)] rfl (by decide +kernel) w h).1
set_option maxRecDepth 20000 in
theorem wl_wsX10 : ∀ w ∈ wsX10, w ∈ lw_tbl := fun w h => (goodIn_e tb_ps_in wsX10 [(1, 54), (1, 56), (1, 58), (1, 60), (1, 62), (1, 64), (1, 66)] rfl (by decide +kernel) w h).1
set_option maxRecDepth 20000 in
theorem wl_wsX100 : ∀ w ∈ wsX100, w ∈ lw_tbl := fun w h => (goodIn_e tb_ps_in wsX100 [(1, 88), (1, 90), (1, 92), (1, 94), (1, 96), (1, 98), (1, 100), (1, 102), (1, 104), (1, 106)] rfl (by decide +kernel) w h).1
set_option maxRecDepth 20000 in
theorem wl_wsX90 : ∀ w ∈ wsX90, w ∈ lw_tbl := fun w h => (goodIn_e tb_ps_in wsX90 [(1, 125), (1, 127), (1, 129), (1, 131), (1, 133), (1, 135), (1, 137)] rfl (by decide +kernel) w h).1
set_option maxRecDepth 20000 in
theorem wl_wsX60 : ∀ w ∈ wsX60, w ∈ lw_tbl := fun w h => (goodIn_e tb_ps_in wsX60 [(1, 157), (1, 159), (1, 161), (1, 163), (1, 165), (1, 167), (1, 169)] rfl (by decide +kernel) w h).1
set_option maxRecDepth 20000 in
theorem wl_wsX70 : ∀ w ∈ wsX70, w ∈ lw_tbl := fun w h => (goodIn_e tb_ps_in wsX70 [(1, 184), (1, 186), (1, 188)] rfl (by decide +kernel) w h).1
set_option maxRecDepth 20000 in
theorem wl_wsX00 : ∀ w ∈ wsX00, w ∈ lw_tbl := fun w h => (goodIn_e tb_ps_in wsX00 [(2, 150), (2, 152)] rfl (by decide +kernel) w h).1
set_option maxRecDepth 20000 in
theorem wl_wsX80 : ∀ w ∈ wsX80, w ∈ lw_tbl := fun w h => (goodIn_e tb_ps_in wsX80 [(2, 165), (2, 166)] rfl (by decide +kernel) w h).1
set_option maxRecDepth 20000 in
theorem wl_wsX50 : ∀ w ∈ wsX50, w ∈ lw_tbl := fun w h => (goodIn_e tb_ps_in wsX50 [(2, 174), (2, 175)] rfl (by decide +kernel) w h).1
set_option maxRecDepth 20000 in
theorem wl_wsX20 : ∀ w ∈ wsX20, w ∈ lw_tbl := fun w h => (goodIn_e tb_ps_in wsX20 [(2, 183), (2, 184)] rfl (by decide +kernel) w h).1
set_option maxRecDepth 20000 in
theorem wl_wsX40 : ∀ w ∈ wsX40, w ∈ lw_tbl := fun w h => (goodIn_e tb_ps_in wsX40 [(2, 201), (2, 203), (2, 205), (2, 207)] rfl (by decide +kernel) w h).1
