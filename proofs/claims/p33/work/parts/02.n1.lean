set_option maxRecDepth 20000 in
theorem ggX0_init_X3_init : GoodIn wsX0_init wsX3_init := goodIn_r _ [4, 5, 6, 7, 8, 9, 10, 11, 12, 13, 14, 15, 16, 17] rfl (by decide +kernel)
set_option maxRecDepth 20000 in
theorem gX0_init_X3_init : GoodIn wsX0_init (wsX3_init) := ggX0_init_X3_init
theorem dX0_init_0 : decode cX0_init 0 = .ok (.aload_n 0, 1) := by decide +kernel
theorem dX0_init_1 : decode cX0_init 1 = .ok (.iload_n 1, 1) := by decide +kernel
theorem dX0_init_2 : decode cX0_init 2 = .ok (.iload_n 2, 1) := by decide +kernel
theorem dX0_init_3 : decode cX0_init 3 = .ok (.invokespecial 1, 3) := by decide +kernel
theorem dX0_init_6 : decode cX0_init 6 = .ok (.return_, 1) := by decide +kernel
theorem dX0_kindNumber_0 : decode cX0_kindNumber 0 = .ok (.iconst 0, 1) := by decide +kernel
theorem dX0_kindNumber_1 : decode cX0_kindNumber 1 = .ok (.ireturn, 1) := by decide +kernel
set_option maxRecDepth 20000 in
theorem ggX0_edge_X3_goneRound : GoodIn wsX0_edge wsX3_goneRound := goodIn_r _ [6, 7, 10, 11, 12, 13, 14, 15, 16, 17] rfl (by decide +kernel)
set_option maxRecDepth 20000 in
theorem gX0_edge_X3_goneRound_u7X0 : GoodIn wsX0_edge (va_wsU RX0 7 RX0 "WardWalkers$Key" ⟨"WardWalkers$Brass", "goneRound", "(I)I"⟩ yX3_goneRound wsX3_goneRound) := goodIn_app (goodIn_of _ (by decide +kernel)) ggX0_edge_X3_goneRound
set_option maxRecDepth 20000 in
theorem gX0_edge_X3_goneRound_u7X5 : GoodIn wsX0_edge (va_wsU RX0 7 RX5 "WardWalkers$Key" ⟨"WardWalkers$Brass", "goneRound", "(I)I"⟩ yX3_goneRound wsX3_goneRound) := goodIn_app (goodIn_of _ (by decide +kernel)) ggX0_edge_X3_goneRound
set_option maxRecDepth 20000 in
theorem gX0_edge_X3_goneRound_u7X8 : GoodIn wsX0_edge (va_wsU RX0 7 RX8 "WardWalkers$Key" ⟨"WardWalkers$Brass", "goneRound", "(I)I"⟩ yX3_goneRound wsX3_goneRound) := goodIn_app (goodIn_of _ (by decide +kernel)) ggX0_edge_X3_goneRound
theorem dX0_edge_0 : decode cX0_edge 0 = .ok (.aload_n 0, 1) := by decide +kernel
theorem dX0_edge_1 : decode cX0_edge 1 = .ok (.iload_n 1, 1) := by decide +kernel
theorem dX0_edge_2 : decode cX0_edge 2 = .ok (.invokevirtual 7, 3) := by decide +kernel
theorem dX0_edge_5 : decode cX0_edge 5 = .ok (.ireturn, 1) := by decide +kernel
theorem dX0_room_0 : decode cX0_room 0 = .ok (.iload_n 1, 1) := by decide +kernel
theorem dX0_room_1 : decode cX0_room 1 = .ok (.ireturn, 1) := by decide +kernel
theorem dX1_init_0 : decode cX1_init 0 = .ok (.aload_n 0, 1) := by decide +kernel
theorem dX1_init_1 : decode cX1_init 1 = .ok (.invokespecial 3, 3) := by decide +kernel
theorem dX1_init_4 : decode cX1_init 4 = .ok (.aload_n 0, 1) := by decide +kernel
theorem dX1_init_5 : decode cX1_init 5 = .ok (.bipush 7, 2) := by decide +kernel
theorem dX1_init_7 : decode cX1_init 7 = .ok (.anewarray 9, 3) := by decide +kernel
theorem dX1_init_10 : decode cX1_init 10 = .ok (.putfield 11, 3) := by decide +kernel
theorem dX1_init_13 : decode cX1_init 13 = .ok (.aload_n 0, 1) := by decide +kernel
theorem dX1_init_14 : decode cX1_init 14 = .ok (.bipush 7, 2) := by decide +kernel
theorem dX1_init_16 : decode cX1_init 16 = .ok (.anewarray 17, 3) := by decide +kernel
theorem dX1_init_19 : decode cX1_init 19 = .ok (.putfield 19, 3) := by decide +kernel
theorem dX1_init_22 : decode cX1_init 22 = .ok (.aload_n 0, 1) := by decide +kernel
theorem dX1_init_23 : decode cX1_init 23 = .ok (.iconst 3, 1) := by decide +kernel
theorem dX1_init_24 : decode cX1_init 24 = .ok (.newarray .int, 2) := by decide +kernel
theorem dX1_init_26 : decode cX1_init 26 = .ok (.putfield 23, 3) := by decide +kernel
theorem dX1_init_29 : decode cX1_init 29 = .ok (.aload_n 0, 1) := by decide +kernel
theorem dX1_init_30 : decode cX1_init 30 = .ok (.bipush 60, 2) := by decide +kernel
theorem dX1_init_32 : decode cX1_init 32 = .ok (.putfield 27, 3) := by decide +kernel
theorem dX1_init_35 : decode cX1_init 35 = .ok (.return_, 1) := by decide +kernel
theorem dX1_clear_0 : decode cX1_clear 0 = .ok (.aload_n 0, 1) := by decide +kernel
theorem dX1_clear_1 : decode cX1_clear 1 = .ok (.iconst 0, 1) := by decide +kernel
theorem dX1_clear_2 : decode cX1_clear 2 = .ok (.putfield 31, 3) := by decide +kernel
theorem dX1_clear_5 : decode cX1_clear 5 = .ok (.aload_n 0, 1) := by decide +kernel
theorem dX1_clear_6 : decode cX1_clear 6 = .ok (.iconst 0, 1) := by decide +kernel
theorem dX1_clear_7 : decode cX1_clear 7 = .ok (.putfield 34, 3) := by decide +kernel
theorem dX1_clear_10 : decode cX1_clear 10 = .ok (.aload_n 0, 1) := by decide +kernel
theorem dX1_clear_11 : decode cX1_clear 11 = .ok (.iconst 0, 1) := by decide +kernel
theorem dX1_clear_12 : decode cX1_clear 12 = .ok (.putfield 37, 3) := by decide +kernel
theorem dX1_clear_15 : decode cX1_clear 15 = .ok (.aload_n 0, 1) := by decide +kernel
theorem dX1_clear_16 : decode cX1_clear 16 = .ok (.bipush 60, 2) := by decide +kernel
theorem dX1_clear_18 : decode cX1_clear 18 = .ok (.putfield 27, 3) := by decide +kernel
theorem dX1_clear_21 : decode cX1_clear 21 = .ok (.return_, 1) := by decide +kernel
theorem dX1_addKey_0 : decode cX1_addKey 0 = .ok (.aload_n 0, 1) := by decide +kernel
theorem dX1_addKey_1 : decode cX1_addKey 1 = .ok (.getfield 31, 3) := by decide +kernel
theorem dX1_addKey_4 : decode cX1_addKey 4 = .ok (.bipush 7, 2) := by decide +kernel
theorem dX1_addKey_6 : decode cX1_addKey 6 = .ok (.if_icmp .ge 23, 3) := by decide +kernel
theorem dX1_addKey_9 : decode cX1_addKey 9 = .ok (.aload_n 0, 1) := by decide +kernel
theorem dX1_addKey_10 : decode cX1_addKey 10 = .ok (.getfield 11, 3) := by decide +kernel
theorem dX1_addKey_13 : decode cX1_addKey 13 = .ok (.aload_n 0, 1) := by decide +kernel
theorem dX1_addKey_14 : decode cX1_addKey 14 = .ok (.getfield 31, 3) := by decide +kernel
theorem dX1_addKey_17 : decode cX1_addKey 17 = .ok (.aload_n 1, 1) := by decide +kernel
theorem dX1_addKey_18 : decode cX1_addKey 18 = .ok (.aastore, 1) := by decide +kernel
theorem dX1_addKey_19 : decode cX1_addKey 19 = .ok (.aload_n 0, 1) := by decide +kernel
theorem dX1_addKey_20 : decode cX1_addKey 20 = .ok (.dup, 1) := by decide +kernel
theorem dX1_addKey_21 : decode cX1_addKey 21 = .ok (.getfield 31, 3) := by decide +kernel
theorem dX1_addKey_24 : decode cX1_addKey 24 = .ok (.iconst 1, 1) := by decide +kernel
theorem dX1_addKey_25 : decode cX1_addKey 25 = .ok (.iadd, 1) := by decide +kernel
theorem dX1_addKey_26 : decode cX1_addKey 26 = .ok (.putfield 31, 3) := by decide +kernel
theorem dX1_addKey_29 : decode cX1_addKey 29 = .ok (.return_, 1) := by decide +kernel
theorem dX1_addLock_0 : decode cX1_addLock 0 = .ok (.aload_n 0, 1) := by decide +kernel
theorem dX1_addLock_1 : decode cX1_addLock 1 = .ok (.getfield 34, 3) := by decide +kernel
theorem dX1_addLock_4 : decode cX1_addLock 4 = .ok (.bipush 7, 2) := by decide +kernel
theorem dX1_addLock_6 : decode cX1_addLock 6 = .ok (.if_icmp .ge 23, 3) := by decide +kernel
theorem dX1_addLock_9 : decode cX1_addLock 9 = .ok (.aload_n 0, 1) := by decide +kernel
theorem dX1_addLock_10 : decode cX1_addLock 10 = .ok (.getfield 19, 3) := by decide +kernel
theorem dX1_addLock_13 : decode cX1_addLock 13 = .ok (.aload_n 0, 1) := by decide +kernel
theorem dX1_addLock_14 : decode cX1_addLock 14 = .ok (.getfield 34, 3) := by decide +kernel
theorem dX1_addLock_17 : decode cX1_addLock 17 = .ok (.aload_n 1, 1) := by decide +kernel
theorem dX1_addLock_18 : decode cX1_addLock 18 = .ok (.aastore, 1) := by decide +kernel
theorem dX1_addLock_19 : decode cX1_addLock 19 = .ok (.aload_n 0, 1) := by decide +kernel
theorem dX1_addLock_20 : decode cX1_addLock 20 = .ok (.dup, 1) := by decide +kernel
theorem dX1_addLock_21 : decode cX1_addLock 21 = .ok (.getfield 34, 3) := by decide +kernel
theorem dX1_addLock_24 : decode cX1_addLock 24 = .ok (.iconst 1, 1) := by decide +kernel
theorem dX1_addLock_25 : decode cX1_addLock 25 = .ok (.iadd, 1) := by decide +kernel
theorem dX1_addLock_26 : decode cX1_addLock 26 = .ok (.putfield 34, 3) := by decide +kernel
theorem dX1_addLock_29 : decode cX1_addLock 29 = .ok (.return_, 1) := by decide +kernel
theorem dX1_addWalker_0 : decode cX1_addWalker 0 = .ok (.aload_n 0, 1) := by decide +kernel
theorem dX1_addWalker_1 : decode cX1_addWalker 1 = .ok (.getfield 37, 3) := by decide +kernel
theorem dX1_addWalker_4 : decode cX1_addWalker 4 = .ok (.iconst 3, 1) := by decide +kernel
theorem dX1_addWalker_5 : decode cX1_addWalker 5 = .ok (.if_icmp .ge 23, 3) := by decide +kernel
theorem dX1_addWalker_8 : decode cX1_addWalker 8 = .ok (.aload_n 0, 1) := by decide +kernel
theorem dX1_addWalker_9 : decode cX1_addWalker 9 = .ok (.getfield 23, 3) := by decide +kernel
theorem dX1_addWalker_12 : decode cX1_addWalker 12 = .ok (.aload_n 0, 1) := by decide +kernel
theorem dX1_addWalker_13 : decode cX1_addWalker 13 = .ok (.getfield 37, 3) := by decide +kernel
theorem dX1_addWalker_16 : decode cX1_addWalker 16 = .ok (.iload_n 1, 1) := by decide +kernel
theorem dX1_addWalker_17 : decode cX1_addWalker 17 = .ok (.iastore, 1) := by decide +kernel
theorem dX1_addWalker_18 : decode cX1_addWalker 18 = .ok (.aload_n 0, 1) := by decide +kernel
theorem dX1_addWalker_19 : decode cX1_addWalker 19 = .ok (.dup, 1) := by decide +kernel
theorem dX1_addWalker_20 : decode cX1_addWalker 20 = .ok (.getfield 37, 3) := by decide +kernel
theorem dX1_addWalker_23 : decode cX1_addWalker 23 = .ok (.iconst 1, 1) := by decide +kernel
theorem dX1_addWalker_24 : decode cX1_addWalker 24 = .ok (.iadd, 1) := by decide +kernel
theorem dX1_addWalker_25 : decode cX1_addWalker 25 = .ok (.putfield 37, 3) := by decide +kernel
theorem dX1_addWalker_28 : decode cX1_addWalker 28 = .ok (.return_, 1) := by decide +kernel
theorem dX1_keyAt_0 : decode cX1_keyAt 0 = .ok (.iload_n 1, 1) := by decide +kernel
theorem dX1_keyAt_1 : decode cX1_keyAt 1 = .ok (.ifCond .lt 26, 3) := by decide +kernel
theorem dX1_keyAt_4 : decode cX1_keyAt 4 = .ok (.iload_n 1, 1) := by decide +kernel
theorem dX1_keyAt_5 : decode cX1_keyAt 5 = .ok (.aload_n 0, 1) := by decide +kernel
theorem dX1_keyAt_6 : decode cX1_keyAt 6 = .ok (.getfield 31, 3) := by decide +kernel
theorem dX1_keyAt_9 : decode cX1_keyAt 9 = .ok (.if_icmp .ge 18, 3) := by decide +kernel
theorem dX1_keyAt_12 : decode cX1_keyAt 12 = .ok (.iload_n 1, 1) := by decide +kernel
theorem dX1_keyAt_13 : decode cX1_keyAt 13 = .ok (.bipush 7, 2) := by decide +kernel
theorem dX1_keyAt_15 : decode cX1_keyAt 15 = .ok (.if_icmp .ge 12, 3) := by decide +kernel
theorem dX1_keyAt_18 : decode cX1_keyAt 18 = .ok (.aload_n 0, 1) := by decide +kernel
theorem dX1_keyAt_19 : decode cX1_keyAt 19 = .ok (.getfield 11, 3) := by decide +kernel
theorem dX1_keyAt_22 : decode cX1_keyAt 22 = .ok (.iload_n 1, 1) := by decide +kernel
theorem dX1_keyAt_23 : decode cX1_keyAt 23 = .ok (.aaload, 1) := by decide +kernel
theorem dX1_keyAt_24 : decode cX1_keyAt 24 = .ok (.goto 4, 3) := by decide +kernel
theorem dX1_keyAt_27 : decode cX1_keyAt 27 = .ok (.aconst_null, 1) := by decide +kernel
theorem dX1_keyAt_28 : decode cX1_keyAt 28 = .ok (.areturn, 1) := by decide +kernel
theorem dX1_lockAt_0 : decode cX1_lockAt 0 = .ok (.iload_n 1, 1) := by decide +kernel
theorem dX1_lockAt_1 : decode cX1_lockAt 1 = .ok (.ifCond .lt 26, 3) := by decide +kernel
theorem dX1_lockAt_4 : decode cX1_lockAt 4 = .ok (.iload_n 1, 1) := by decide +kernel
theorem dX1_lockAt_5 : decode cX1_lockAt 5 = .ok (.aload_n 0, 1) := by decide +kernel
theorem dX1_lockAt_6 : decode cX1_lockAt 6 = .ok (.getfield 34, 3) := by decide +kernel
theorem dX1_lockAt_9 : decode cX1_lockAt 9 = .ok (.if_icmp .ge 18, 3) := by decide +kernel
theorem dX1_lockAt_12 : decode cX1_lockAt 12 = .ok (.iload_n 1, 1) := by decide +kernel
theorem dX1_lockAt_13 : decode cX1_lockAt 13 = .ok (.bipush 7, 2) := by decide +kernel
theorem dX1_lockAt_15 : decode cX1_lockAt 15 = .ok (.if_icmp .ge 12, 3) := by decide +kernel
theorem dX1_lockAt_18 : decode cX1_lockAt 18 = .ok (.aload_n 0, 1) := by decide +kernel
theorem dX1_lockAt_19 : decode cX1_lockAt 19 = .ok (.getfield 19, 3) := by decide +kernel
theorem dX1_lockAt_22 : decode cX1_lockAt 22 = .ok (.iload_n 1, 1) := by decide +kernel
theorem dX1_lockAt_23 : decode cX1_lockAt 23 = .ok (.aaload, 1) := by decide +kernel
theorem dX1_lockAt_24 : decode cX1_lockAt 24 = .ok (.goto 4, 3) := by decide +kernel
theorem dX1_lockAt_27 : decode cX1_lockAt 27 = .ok (.aconst_null, 1) := by decide +kernel
theorem dX1_lockAt_28 : decode cX1_lockAt 28 = .ok (.areturn, 1) := by decide +kernel
theorem dX1_hasWalker_0 : decode cX1_hasWalker 0 = .ok (.iload_n 1, 1) := by decide +kernel
theorem dX1_hasWalker_1 : decode cX1_hasWalker 1 = .ok (.ifCond .lt 15, 3) := by decide +kernel
theorem dX1_hasWalker_4 : decode cX1_hasWalker 4 = .ok (.iload_n 1, 1) := by decide +kernel
theorem dX1_hasWalker_5 : decode cX1_hasWalker 5 = .ok (.aload_n 0, 1) := by decide +kernel
theorem dX1_hasWalker_6 : decode cX1_hasWalker 6 = .ok (.getfield 37, 3) := by decide +kernel
theorem dX1_hasWalker_9 : decode cX1_hasWalker 9 = .ok (.if_icmp .ge 7, 3) := by decide +kernel
theorem dX1_hasWalker_12 : decode cX1_hasWalker 12 = .ok (.iconst 1, 1) := by decide +kernel
theorem dX1_hasWalker_13 : decode cX1_hasWalker 13 = .ok (.goto 4, 3) := by decide +kernel
theorem dX1_hasWalker_16 : decode cX1_hasWalker 16 = .ok (.iconst 0, 1) := by decide +kernel
theorem dX1_hasWalker_17 : decode cX1_hasWalker 17 = .ok (.ireturn, 1) := by decide +kernel
theorem dX1_allKeys_0 : decode cX1_allKeys 0 = .ok (.iconst 1, 1) := by decide +kernel
theorem dX1_allKeys_1 : decode cX1_allKeys 1 = .ok (.aload_n 0, 1) := by decide +kernel
theorem dX1_allKeys_2 : decode cX1_allKeys 2 = .ok (.getfield 31, 3) := by decide +kernel
theorem dX1_allKeys_5 : decode cX1_allKeys 5 = .ok (.ishl, 1) := by decide +kernel
theorem dX1_allKeys_6 : decode cX1_allKeys 6 = .ok (.iconst 1, 1) := by decide +kernel
theorem dX1_allKeys_7 : decode cX1_allKeys 7 = .ok (.isub, 1) := by decide +kernel
theorem dX1_allKeys_8 : decode cX1_allKeys 8 = .ok (.ireturn, 1) := by decide +kernel
set_option maxRecDepth 20000 in
theorem ggX2_init_X3_init : GoodIn wsX2_init wsX3_init := goodIn_r _ [4, 5, 6, 7, 8, 9, 10, 11, 12, 13, 14, 15, 16, 17] rfl (by decide +kernel)
set_option maxRecDepth 20000 in
theorem gX2_init_X3_init : GoodIn wsX2_init (wsX3_init) := ggX2_init_X3_init
theorem dX2_init_0 : decode cX2_init 0 = .ok (.aload_n 0, 1) := by decide +kernel
theorem dX2_init_1 : decode cX2_init 1 = .ok (.iload_n 1, 1) := by decide +kernel
theorem dX2_init_2 : decode cX2_init 2 = .ok (.iload_n 2, 1) := by decide +kernel
theorem dX2_init_3 : decode cX2_init 3 = .ok (.invokespecial 3, 3) := by decide +kernel
theorem dX2_init_6 : decode cX2_init 6 = .ok (.return_, 1) := by decide +kernel
theorem dX2_kindNumber_0 : decode cX2_kindNumber 0 = .ok (.iconst 3, 1) := by decide +kernel
theorem dX2_kindNumber_1 : decode cX2_kindNumber 1 = .ok (.ireturn, 1) := by decide +kernel
set_option maxRecDepth 20000 in
theorem ggX2_edge_X3_goneRound : GoodIn wsX2_edge wsX3_goneRound := goodIn_r _ [8, 9, 10, 11, 12, 13, 14, 15, 16, 17] rfl (by decide +kernel)
set_option maxRecDepth 20000 in
theorem gX2_edge_X3_goneRound_u9X2 : GoodIn wsX2_edge (va_wsU RX2 9 RX2 "WardWalkers$Key" ⟨"WardWalkers$Filed", "goneRound", "(I)I"⟩ yX3_goneRound wsX3_goneRound) := goodIn_app (goodIn_of _ (by decide +kernel)) ggX2_edge_X3_goneRound
theorem dX2_edge_0 : decode cX2_edge 0 = .ok (.aload_n 0, 1) := by decide +kernel
theorem dX2_edge_1 : decode cX2_edge 1 = .ok (.iload_n 1, 1) := by decide +kernel
theorem dX2_edge_2 : decode cX2_edge 2 = .ok (.invokevirtual 9, 3) := by decide +kernel
theorem dX2_edge_5 : decode cX2_edge 5 = .ok (.istore_n 2, 1) := by decide +kernel
theorem dX2_edge_6 : decode cX2_edge 6 = .ok (.aload_n 0, 1) := by decide +kernel
theorem dX2_edge_7 : decode cX2_edge 7 = .ok (.getfield 15, 3) := by decide +kernel
theorem dX2_edge_10 : decode cX2_edge 10 = .ok (.istore_n 3, 1) := by decide +kernel
theorem dX2_edge_11 : decode cX2_edge 11 = .ok (.iconst 0, 1) := by decide +kernel
theorem dX2_edge_12 : decode cX2_edge 12 = .ok (.istore 4, 2) := by decide +kernel
theorem dX2_edge_14 : decode cX2_edge 14 = .ok (.iload 4, 2) := by decide +kernel
theorem dX2_edge_16 : decode cX2_edge 16 = .ok (.bipush 9, 2) := by decide +kernel
theorem dX2_edge_18 : decode cX2_edge 18 = .ok (.if_icmp .ge 35, 3) := by decide +kernel
theorem dX2_edge_21 : decode cX2_edge 21 = .ok (.iload_n 3, 1) := by decide +kernel
theorem dX2_edge_22 : decode cX2_edge 22 = .ok (.ifCond .le 25, 3) := by decide +kernel
theorem dX2_edge_25 : decode cX2_edge 25 = .ok (.iload_n 2, 1) := by decide +kernel
theorem dX2_edge_26 : decode cX2_edge 26 = .ok (.iload 4, 2) := by decide +kernel
theorem dX2_edge_28 : decode cX2_edge 28 = .ok (.ishr, 1) := by decide +kernel
theorem dX2_edge_29 : decode cX2_edge 29 = .ok (.iconst 1, 1) := by decide +kernel
theorem dX2_edge_30 : decode cX2_edge 30 = .ok (.iand, 1) := by decide +kernel
theorem dX2_edge_31 : decode cX2_edge 31 = .ok (.iconst 1, 1) := by decide +kernel
theorem dX2_edge_32 : decode cX2_edge 32 = .ok (.if_icmp .ne 15, 3) := by decide +kernel
theorem dX2_edge_35 : decode cX2_edge 35 = .ok (.iload_n 2, 1) := by decide +kernel
theorem dX2_edge_36 : decode cX2_edge 36 = .ok (.iconst 1, 1) := by decide +kernel
theorem dX2_edge_37 : decode cX2_edge 37 = .ok (.iload 4, 2) := by decide +kernel
theorem dX2_edge_39 : decode cX2_edge 39 = .ok (.ishl, 1) := by decide +kernel
theorem dX2_edge_40 : decode cX2_edge 40 = .ok (.iconst (-1), 1) := by decide +kernel
theorem dX2_edge_41 : decode cX2_edge 41 = .ok (.ixor, 1) := by decide +kernel
theorem dX2_edge_42 : decode cX2_edge 42 = .ok (.iand, 1) := by decide +kernel
theorem dX2_edge_43 : decode cX2_edge 43 = .ok (.istore_n 2, 1) := by decide +kernel
theorem dX2_edge_44 : decode cX2_edge 44 = .ok (.iinc 3 (-1), 3) := by decide +kernel
theorem dX2_edge_47 : decode cX2_edge 47 = .ok (.iinc 4 1, 3) := by decide +kernel
theorem dX2_edge_50 : decode cX2_edge 50 = .ok (.goto (-36), 3) := by decide +kernel
theorem dX2_edge_53 : decode cX2_edge 53 = .ok (.iload_n 2, 1) := by decide +kernel
theorem dX2_edge_54 : decode cX2_edge 54 = .ok (.ireturn, 1) := by decide +kernel
theorem dX2_room_0 : decode cX2_room 0 = .ok (.iload_n 1, 1) := by decide +kernel
theorem dX2_room_1 : decode cX2_room 1 = .ok (.ireturn, 1) := by decide +kernel
theorem dX3_init_0 : decode cX3_init 0 = .ok (.aload_n 0, 1) := by decide +kernel
theorem dX3_init_1 : decode cX3_init 1 = .ok (.invokespecial 3, 3) := by decide +kernel
theorem dX3_init_4 : decode cX3_init 4 = .ok (.aload_n 0, 1) := by decide +kernel
theorem dX3_init_5 : decode cX3_init 5 = .ok (.iload_n 1, 1) := by decide +kernel
theorem dX3_init_6 : decode cX3_init 6 = .ok (.putfield 9, 3) := by decide +kernel
theorem dX3_init_9 : decode cX3_init 9 = .ok (.aload_n 0, 1) := by decide +kernel
theorem dX3_init_10 : decode cX3_init 10 = .ok (.iload_n 2, 1) := by decide +kernel
theorem dX3_init_11 : decode cX3_init 11 = .ok (.putfield 15, 3) := by decide +kernel
theorem dX3_init_14 : decode cX3_init 14 = .ok (.return_, 1) := by decide +kernel
theorem dX3_goneRound_0 : decode cX3_goneRound 0 = .ok (.aload_n 0, 1) := by decide +kernel
theorem dX3_goneRound_1 : decode cX3_goneRound 1 = .ok (.getfield 9, 3) := by decide +kernel
theorem dX3_goneRound_4 : decode cX3_goneRound 4 = .ok (.iload_n 1, 1) := by decide +kernel
theorem dX3_goneRound_5 : decode cX3_goneRound 5 = .ok (.ishl, 1) := by decide +kernel
theorem dX3_goneRound_6 : decode cX3_goneRound 6 = .ok (.aload_n 0, 1) := by decide +kernel
theorem dX3_goneRound_7 : decode cX3_goneRound 7 = .ok (.getfield 9, 3) := by decide +kernel
theorem dX3_goneRound_10 : decode cX3_goneRound 10 = .ok (.bipush 9, 2) := by decide +kernel
theorem dX3_goneRound_12 : decode cX3_goneRound 12 = .ok (.iload_n 1, 1) := by decide +kernel
theorem dX3_goneRound_13 : decode cX3_goneRound 13 = .ok (.isub, 1) := by decide +kernel
theorem dX3_goneRound_14 : decode cX3_goneRound 14 = .ok (.ishr, 1) := by decide +kernel
theorem dX3_goneRound_15 : decode cX3_goneRound 15 = .ok (.ior, 1) := by decide +kernel
theorem dX3_goneRound_16 : decode cX3_goneRound 16 = .ok (.sipush 511, 3) := by decide +kernel
theorem dX3_goneRound_19 : decode cX3_goneRound 19 = .ok (.iand, 1) := by decide +kernel
theorem dX3_goneRound_20 : decode cX3_goneRound 20 = .ok (.ireturn, 1) := by decide +kernel
theorem dX4_init_0 : decode cX4_init 0 = .ok (.aload_n 0, 1) := by decide +kernel
theorem dX4_init_1 : decode cX4_init 1 = .ok (.invokespecial 1, 3) := by decide +kernel
theorem dX4_init_4 : decode cX4_init 4 = .ok (.aload_n 0, 1) := by decide +kernel
theorem dX4_init_5 : decode cX4_init 5 = .ok (.iload_n 1, 1) := by decide +kernel
theorem dX4_init_6 : decode cX4_init 6 = .ok (.putfield 7, 3) := by decide +kernel
theorem dX4_init_9 : decode cX4_init 9 = .ok (.aload_n 0, 1) := by decide +kernel
theorem dX4_init_10 : decode cX4_init 10 = .ok (.iload_n 2, 1) := by decide +kernel
theorem dX4_init_11 : decode cX4_init 11 = .ok (.putfield 13, 3) := by decide +kernel
theorem dX4_init_14 : decode cX4_init 14 = .ok (.aload_n 0, 1) := by decide +kernel
theorem dX4_init_15 : decode cX4_init 15 = .ok (.iload_n 3, 1) := by decide +kernel
theorem dX4_init_16 : decode cX4_init 16 = .ok (.putfield 16, 3) := by decide +kernel
theorem dX4_init_19 : decode cX4_init 19 = .ok (.aload_n 0, 1) := by decide +kernel
theorem dX4_init_20 : decode cX4_init 20 = .ok (.iload 4, 2) := by decide +kernel
theorem dX4_init_22 : decode cX4_init 22 = .ok (.putfield 19, 3) := by decide +kernel
theorem dX4_init_25 : decode cX4_init 25 = .ok (.return_, 1) := by decide +kernel
set_option maxRecDepth 20000 in
theorem ggX4_lackingIn_J6_bitCount_0f7a4 : GoodIn wsX4_lackingIn wsJ6_bitCount_0f7a4 := goodIn_r _ [5, 6, 7, 8] rfl (by decide +kernel)
set_option maxRecDepth 20000 in
theorem gX4_lackingIn_J6_bitCount_0f7a4 : GoodIn wsX4_lackingIn (va_wsS RX4 22 yJ6_bitCount_0f7a4 wsJ6_bitCount_0f7a4) := goodIn_app (goodIn_of _ (by decide +kernel)) ggX4_lackingIn_J6_bitCount_0f7a4
theorem dX4_lackingIn_0 : decode cX4_lackingIn 0 = .ok (.aload_n 0, 1) := by decide +kernel
theorem dX4_lackingIn_1 : decode cX4_lackingIn 1 = .ok (.getfield 13, 3) := by decide +kernel
theorem dX4_lackingIn_4 : decode cX4_lackingIn 4 = .ok (.iload_n 1, 1) := by decide +kernel
theorem dX4_lackingIn_5 : decode cX4_lackingIn 5 = .ok (.iconst (-1), 1) := by decide +kernel
theorem dX4_lackingIn_6 : decode cX4_lackingIn 6 = .ok (.ixor, 1) := by decide +kernel
theorem dX4_lackingIn_7 : decode cX4_lackingIn 7 = .ok (.iand, 1) := by decide +kernel
theorem dX4_lackingIn_8 : decode cX4_lackingIn 8 = .ok (.invokestatic 22, 3) := by decide +kernel
theorem dX4_lackingIn_11 : decode cX4_lackingIn 11 = .ok (.ireturn, 1) := by decide +kernel
set_option maxRecDepth 20000 in
theorem ggX4_overIn_J6_bitCount_0f7a4 : GoodIn wsX4_overIn wsJ6_bitCount_0f7a4 := goodIn_r _ [5, 6, 7, 8] rfl (by decide +kernel)
set_option maxRecDepth 20000 in
theorem gX4_overIn_J6_bitCount_0f7a4 : GoodIn wsX4_overIn (va_wsS RX4 22 yJ6_bitCount_0f7a4 wsJ6_bitCount_0f7a4) := goodIn_app (goodIn_of _ (by decide +kernel)) ggX4_overIn_J6_bitCount_0f7a4
theorem dX4_overIn_0 : decode cX4_overIn 0 = .ok (.iload_n 1, 1) := by decide +kernel
theorem dX4_overIn_1 : decode cX4_overIn 1 = .ok (.aload_n 0, 1) := by decide +kernel
theorem dX4_overIn_2 : decode cX4_overIn 2 = .ok (.getfield 13, 3) := by decide +kernel
theorem dX4_overIn_5 : decode cX4_overIn 5 = .ok (.iconst (-1), 1) := by decide +kernel
theorem dX4_overIn_6 : decode cX4_overIn 6 = .ok (.ixor, 1) := by decide +kernel
theorem dX4_overIn_7 : decode cX4_overIn 7 = .ok (.iand, 1) := by decide +kernel
theorem dX4_overIn_8 : decode cX4_overIn 8 = .ok (.invokestatic 22, 3) := by decide +kernel
theorem dX4_overIn_11 : decode cX4_overIn 11 = .ok (.ireturn, 1) := by decide +kernel
set_option maxRecDepth 20000 in
theorem ggX4_letsIn_X0_edge : GoodIn wsX4_letsIn wsX0_edge := goodIn_r _ [7, 8, 9, 10, 11, 12, 13, 14, 15, 16, 74, 75, 76, 77, 78, 79, 80, 81] rfl (by decide +kernel)
set_option maxRecDepth 20000 in
theorem gX4_letsIn_X0_edge_u28X0 : GoodIn wsX4_letsIn (va_wsU RX4 28 RX0 "WardWalkers$Key" ⟨"WardWalkers$Key", "edge", "(I)I"⟩ yX0_edge wsX0_edge) := goodIn_app (goodIn_of _ (by decide +kernel)) ggX4_letsIn_X0_edge
set_option maxRecDepth 20000 in
theorem ggX4_letsIn_X2_edge : GoodIn wsX4_letsIn wsX2_edge := goodIn_r _ [20, 21, 22, 23, 24, 25, 11, 12, 13, 14, 74, 75, 76, 77, 78, 79, 80, 81] rfl (by decide +kernel)
set_option maxRecDepth 20000 in
theorem gX4_letsIn_X2_edge_u28X2 : GoodIn wsX4_letsIn (va_wsU RX4 28 RX2 "WardWalkers$Key" ⟨"WardWalkers$Key", "edge", "(I)I"⟩ yX2_edge wsX2_edge) := goodIn_app (goodIn_of _ (by decide +kernel)) ggX4_letsIn_X2_edge
set_option maxRecDepth 20000 in
theorem gX4_letsIn_X0_edge_u28X5 : GoodIn wsX4_letsIn (va_wsU RX4 28 RX5 "WardWalkers$Key" ⟨"WardWalkers$Key", "edge", "(I)I"⟩ yX0_edge wsX0_edge) := goodIn_app (goodIn_of _ (by decide +kernel)) ggX4_letsIn_X0_edge
set_option maxRecDepth 20000 in
theorem ggX4_letsIn_X8_edge : GoodIn wsX4_letsIn wsX8_edge := goodIn_r _ [30, 31, 32, 33, 34, 35, 5, 6, 7, 8, 9, 10, 11, 12, 13, 14, 15, 16, 74, 75, 76, 77, 78, 79, 80, 81] rfl (by decide +kernel)
set_option maxRecDepth 20000 in
theorem gX4_letsIn_X8_edge_u28X8 : GoodIn wsX4_letsIn (va_wsU RX4 28 RX8 "WardWalkers$Key" ⟨"WardWalkers$Key", "edge", "(I)I"⟩ yX8_edge wsX8_edge) := goodIn_app (goodIn_of _ (by decide +kernel)) ggX4_letsIn_X8_edge
set_option maxRecDepth 20000 in
theorem ggX4_letsIn_X4_lackingIn : GoodIn wsX4_letsIn wsX4_lackingIn := goodIn_r _ [40, 41, 42, 43, 44, 45, 46, 47, 48, 70, 71, 72, 73] rfl (by decide +kernel)
set_option maxRecDepth 20000 in
theorem gX4_letsIn_X4_lackingIn : GoodIn wsX4_letsIn (wsV RX4 33 RX4 yX4_lackingIn wsX4_lackingIn) := goodIn_app (goodIn_of _ (by decide +kernel)) ggX4_letsIn_X4_lackingIn
set_option maxRecDepth 20000 in
theorem ggX4_letsIn_X4_overIn : GoodIn wsX4_letsIn wsX4_overIn := goodIn_r _ [52, 41, 42, 43, 44, 45, 46, 47, 48, 70, 71, 72, 73] rfl (by decide +kernel)
set_option maxRecDepth 20000 in
theorem gX4_letsIn_X4_overIn : GoodIn wsX4_letsIn (wsV RX4 36 RX4 yX4_overIn wsX4_overIn) := goodIn_app (goodIn_of _ (by decide +kernel)) ggX4_letsIn_X4_overIn
set_option maxRecDepth 20000 in
theorem ggX4_letsIn_X0_room : GoodIn wsX4_letsIn wsX0_room := goodIn_r _ [57] rfl (by decide +kernel)
set_option maxRecDepth 20000 in
theorem gX4_letsIn_X0_room_u39X0 : GoodIn wsX4_letsIn (va_wsU RX4 39 RX0 "WardWalkers$Key" ⟨"WardWalkers$Key", "room", "(I)I"⟩ yX0_room wsX0_room) := goodIn_app (goodIn_of _ (by decide +kernel)) ggX4_letsIn_X0_room
set_option maxRecDepth 20000 in
theorem ggX4_letsIn_X2_room : GoodIn wsX4_letsIn wsX2_room := goodIn_r _ [60] rfl (by decide +kernel)
set_option maxRecDepth 20000 in
theorem gX4_letsIn_X2_room_u39X2 : GoodIn wsX4_letsIn (va_wsU RX4 39 RX2 "WardWalkers$Key" ⟨"WardWalkers$Key", "room", "(I)I"⟩ yX2_room wsX2_room) := goodIn_app (goodIn_of _ (by decide +kernel)) ggX4_letsIn_X2_room
set_option maxRecDepth 20000 in
theorem ggX4_letsIn_X5_room : GoodIn wsX4_letsIn wsX5_room := goodIn_r _ [64] rfl (by decide +kernel)
set_option maxRecDepth 20000 in
theorem gX4_letsIn_X5_room_u39X5 : GoodIn wsX4_letsIn (va_wsU RX4 39 RX5 "WardWalkers$Key" ⟨"WardWalkers$Key", "room", "(I)I"⟩ yX5_room wsX5_room) := goodIn_app (goodIn_of _ (by decide +kernel)) ggX4_letsIn_X5_room
set_option maxRecDepth 20000 in
theorem ggX4_letsIn_X8_room : GoodIn wsX4_letsIn wsX8_room := goodIn_r _ [67, 68, 69, 35, 56, 6, 57] rfl (by decide +kernel)
set_option maxRecDepth 20000 in
theorem gX4_letsIn_X8_room_u39X8 : GoodIn wsX4_letsIn (va_wsU RX4 39 RX8 "WardWalkers$Key" ⟨"WardWalkers$Key", "room", "(I)I"⟩ yX8_room wsX8_room) := goodIn_app (goodIn_of _ (by decide +kernel)) ggX4_letsIn_X8_room
theorem dX4_letsIn_0 : decode cX4_letsIn 0 = .ok (.aload_n 1, 1) := by decide +kernel
theorem dX4_letsIn_1 : decode cX4_letsIn 1 = .ok (.iload_n 2, 1) := by decide +kernel
theorem dX4_letsIn_2 : decode cX4_letsIn 2 = .ok (.invokevirtual 28, 3) := by decide +kernel
theorem dX4_letsIn_5 : decode cX4_letsIn 5 = .ok (.istore_n 3, 1) := by decide +kernel
theorem dX4_letsIn_6 : decode cX4_letsIn 6 = .ok (.aload_n 0, 1) := by decide +kernel
theorem dX4_letsIn_7 : decode cX4_letsIn 7 = .ok (.iload_n 3, 1) := by decide +kernel
theorem dX4_letsIn_8 : decode cX4_letsIn 8 = .ok (.invokevirtual 33, 3) := by decide +kernel
theorem dX4_letsIn_11 : decode cX4_letsIn 11 = .ok (.ifCond .ne 23, 3) := by decide +kernel
theorem dX4_letsIn_14 : decode cX4_letsIn 14 = .ok (.aload_n 0, 1) := by decide +kernel
theorem dX4_letsIn_15 : decode cX4_letsIn 15 = .ok (.iload_n 3, 1) := by decide +kernel
theorem dX4_letsIn_16 : decode cX4_letsIn 16 = .ok (.invokevirtual 36, 3) := by decide +kernel
theorem dX4_letsIn_19 : decode cX4_letsIn 19 = .ok (.aload_n 1, 1) := by decide +kernel
theorem dX4_letsIn_20 : decode cX4_letsIn 20 = .ok (.aload_n 0, 1) := by decide +kernel
theorem dX4_letsIn_21 : decode cX4_letsIn 21 = .ok (.getfield 16, 3) := by decide +kernel
theorem dX4_letsIn_24 : decode cX4_letsIn 24 = .ok (.invokevirtual 39, 3) := by decide +kernel
theorem dX4_letsIn_27 : decode cX4_letsIn 27 = .ok (.if_icmp .gt 7, 3) := by decide +kernel
theorem dX4_letsIn_30 : decode cX4_letsIn 30 = .ok (.iconst 1, 1) := by decide +kernel
theorem dX4_letsIn_31 : decode cX4_letsIn 31 = .ok (.goto 4, 3) := by decide +kernel
theorem dX4_letsIn_34 : decode cX4_letsIn 34 = .ok (.iconst 0, 1) := by decide +kernel
theorem dX4_letsIn_35 : decode cX4_letsIn 35 = .ok (.ireturn, 1) := by decide +kernel
set_option maxRecDepth 20000 in
theorem ggX4_letsBrass_X4_lackingIn : GoodIn wsX4_letsBrass wsX4_lackingIn := goodIn_r _ [6, 7, 8, 9, 10, 11, 12, 13, 14, 19, 20, 21, 22] rfl (by decide +kernel)
set_option maxRecDepth 20000 in
theorem gX4_letsBrass_X4_lackingIn : GoodIn wsX4_letsBrass (wsV RX4 33 RX4 yX4_lackingIn wsX4_lackingIn) := goodIn_app (goodIn_of _ (by decide +kernel)) ggX4_letsBrass_X4_lackingIn
set_option maxRecDepth 20000 in
theorem ggX4_letsBrass_X4_overIn : GoodIn wsX4_letsBrass wsX4_overIn := goodIn_r _ [18, 7, 8, 9, 10, 11, 12, 13, 14, 19, 20, 21, 22] rfl (by decide +kernel)
set_option maxRecDepth 20000 in
theorem gX4_letsBrass_X4_overIn : GoodIn wsX4_letsBrass (wsV RX4 36 RX4 yX4_overIn wsX4_overIn) := goodIn_app (goodIn_of _ (by decide +kernel)) ggX4_letsBrass_X4_overIn
theorem dX4_letsBrass_0 : decode cX4_letsBrass 0 = .ok (.aload_n 0, 1) := by decide +kernel
theorem dX4_letsBrass_1 : decode cX4_letsBrass 1 = .ok (.iload_n 1, 1) := by decide +kernel
theorem dX4_letsBrass_2 : decode cX4_letsBrass 2 = .ok (.invokevirtual 33, 3) := by decide +kernel
theorem dX4_letsBrass_5 : decode cX4_letsBrass 5 = .ok (.ifCond .ne 19, 3) := by decide +kernel
theorem dX4_letsBrass_8 : decode cX4_letsBrass 8 = .ok (.aload_n 0, 1) := by decide +kernel
theorem dX4_letsBrass_9 : decode cX4_letsBrass 9 = .ok (.iload_n 1, 1) := by decide +kernel
theorem dX4_letsBrass_10 : decode cX4_letsBrass 10 = .ok (.invokevirtual 36, 3) := by decide +kernel
theorem dX4_letsBrass_13 : decode cX4_letsBrass 13 = .ok (.aload_n 0, 1) := by decide +kernel
theorem dX4_letsBrass_14 : decode cX4_letsBrass 14 = .ok (.getfield 16, 3) := by decide +kernel
theorem dX4_letsBrass_17 : decode cX4_letsBrass 17 = .ok (.if_icmp .gt 7, 3) := by decide +kernel
theorem dX4_letsBrass_20 : decode cX4_letsBrass 20 = .ok (.iconst 1, 1) := by decide +kernel
theorem dX4_letsBrass_21 : decode cX4_letsBrass 21 = .ok (.goto 4, 3) := by decide +kernel
theorem dX4_letsBrass_24 : decode cX4_letsBrass 24 = .ok (.iconst 0, 1) := by decide +kernel
theorem dX4_letsBrass_25 : decode cX4_letsBrass 25 = .ok (.ireturn, 1) := by decide +kernel
set_option maxRecDepth 20000 in
theorem ggX5_init_X0_init : GoodIn wsX5_init wsX0_init := goodIn_r _ [4, 5, 6, 7, 8, 9, 10, 11, 12, 13, 14, 15, 16, 17, 18, 19, 20, 21] rfl (by decide +kernel)
set_option maxRecDepth 20000 in
theorem gX5_init_X0_init : GoodIn wsX5_init (wsX0_init) := ggX5_init_X0_init
theorem dX5_init_0 : decode cX5_init 0 = .ok (.aload_n 0, 1) := by decide +kernel
theorem dX5_init_1 : decode cX5_init 1 = .ok (.iload_n 1, 1) := by decide +kernel
theorem dX5_init_2 : decode cX5_init 2 = .ok (.iconst 0, 1) := by decide +kernel
theorem dX5_init_3 : decode cX5_init 3 = .ok (.invokespecial 3, 3) := by decide +kernel
theorem dX5_init_6 : decode cX5_init 6 = .ok (.return_, 1) := by decide +kernel
theorem dX5_kindNumber_0 : decode cX5_kindNumber 0 = .ok (.iconst 2, 1) := by decide +kernel
theorem dX5_kindNumber_1 : decode cX5_kindNumber 1 = .ok (.ireturn, 1) := by decide +kernel
theorem dX5_room_0 : decode cX5_room 0 = .ok (.bipush 9, 2) := by decide +kernel
theorem dX5_room_2 : decode cX5_room 2 = .ok (.ireturn, 1) := by decide +kernel
theorem dX6_init_0 : decode cX6_init 0 = .ok (.aload_n 0, 1) := by decide +kernel
theorem dX6_init_1 : decode cX6_init 1 = .ok (.invokespecial 3, 3) := by decide +kernel
theorem dX6_init_4 : decode cX6_init 4 = .ok (.aload_n 0, 1) := by decide +kernel
theorem dX6_init_5 : decode cX6_init 5 = .ok (.bipush 7, 2) := by decide +kernel
theorem dX6_init_7 : decode cX6_init 7 = .ok (.newarray .int, 2) := by decide +kernel
theorem dX6_init_9 : decode cX6_init 9 = .ok (.putfield 9, 3) := by decide +kernel
theorem dX6_init_12 : decode cX6_init 12 = .ok (.aload_n 0, 1) := by decide +kernel
theorem dX6_init_13 : decode cX6_init 13 = .ok (.sipush 1024, 3) := by decide +kernel
theorem dX6_init_16 : decode cX6_init 16 = .ok (.newarray .int, 2) := by decide +kernel
theorem dX6_init_18 : decode cX6_init 18 = .ok (.putfield 15, 3) := by decide +kernel
theorem dX6_init_21 : decode cX6_init 21 = .ok (.aload_n 0, 1) := by decide +kernel
theorem dX6_init_22 : decode cX6_init 22 = .ok (.bipush 7, 2) := by decide +kernel
theorem dX6_init_24 : decode cX6_init 24 = .ok (.newarray .int, 2) := by decide +kernel
theorem dX6_init_26 : decode cX6_init 26 = .ok (.putfield 18, 3) := by decide +kernel
theorem dX6_init_29 : decode cX6_init 29 = .ok (.aload_n 0, 1) := by decide +kernel
theorem dX6_init_30 : decode cX6_init 30 = .ok (.sipush 896, 3) := by decide +kernel
theorem dX6_init_33 : decode cX6_init 33 = .ok (.newarray .int, 2) := by decide +kernel
theorem dX6_init_35 : decode cX6_init 35 = .ok (.putfield 21, 3) := by decide +kernel
theorem dX6_init_38 : decode cX6_init 38 = .ok (.aload_n 0, 1) := by decide +kernel
theorem dX6_init_39 : decode cX6_init 39 = .ok (.sipush 128, 3) := by decide +kernel
theorem dX6_init_42 : decode cX6_init 42 = .ok (.newarray .int, 2) := by decide +kernel
theorem dX6_init_44 : decode cX6_init 44 = .ok (.putfield 24, 3) := by decide +kernel
theorem dX6_init_47 : decode cX6_init 47 = .ok (.aload_n 0, 1) := by decide +kernel
theorem dX6_init_48 : decode cX6_init 48 = .ok (.sipush 128, 3) := by decide +kernel
theorem dX6_init_51 : decode cX6_init 51 = .ok (.newarray .int, 2) := by decide +kernel
theorem dX6_init_53 : decode cX6_init 53 = .ok (.putfield 27, 3) := by decide +kernel
theorem dX6_init_56 : decode cX6_init 56 = .ok (.return_, 1) := by decide +kernel
theorem dX6_keyFor_0 : decode cX6_keyFor 0 = .ok (.iload_n 1, 1) := by decide +kernel
theorem dX6_keyFor_1 : decode cX6_keyFor 1 = .ok (.ifCond .lt 18, 3) := by decide +kernel
theorem dX6_keyFor_4 : decode cX6_keyFor 4 = .ok (.iload_n 1, 1) := by decide +kernel
theorem dX6_keyFor_5 : decode cX6_keyFor 5 = .ok (.bipush 7, 2) := by decide +kernel
theorem dX6_keyFor_7 : decode cX6_keyFor 7 = .ok (.if_icmp .ge 12, 3) := by decide +kernel
theorem dX6_keyFor_10 : decode cX6_keyFor 10 = .ok (.aload_n 0, 1) := by decide +kernel
theorem dX6_keyFor_11 : decode cX6_keyFor 11 = .ok (.getfield 18, 3) := by decide +kernel
theorem dX6_keyFor_14 : decode cX6_keyFor 14 = .ok (.iload_n 1, 1) := by decide +kernel
theorem dX6_keyFor_15 : decode cX6_keyFor 15 = .ok (.iaload, 1) := by decide +kernel
theorem dX6_keyFor_16 : decode cX6_keyFor 16 = .ok (.goto 4, 3) := by decide +kernel
theorem dX6_keyFor_19 : decode cX6_keyFor 19 = .ok (.iconst (-1), 1) := by decide +kernel
theorem dX6_keyFor_20 : decode cX6_keyFor 20 = .ok (.ireturn, 1) := by decide +kernel
set_option maxRecDepth 20000 in
theorem ggX6_pairUp_X6_fillMost : GoodIn wsX6_pairUp wsX6_fillMost := goodIn_r _ [8, 1, 9, 10, 11, 12, 13, 14, 15, 7, 16, 17, 22, 23, 24, 25, 26, 27, 28] rfl (by decide +kernel)
set_option maxRecDepth 20000 in
theorem gX6_pairUp_X6_fillMost : GoodIn wsX6_pairUp (wsV RX6 30 RX6 yX6_fillMost wsX6_fillMost) := goodIn_app (goodIn_of _ (by decide +kernel)) ggX6_pairUp_X6_fillMost
set_option maxRecDepth 20000 in
theorem ggX6_pairUp_X6_firstKeyFor : GoodIn wsX6_pairUp wsX6_firstKeyFor := goodIn_r _ [21, 1, 13, 14, 15, 7, 16, 17, 22, 23, 24, 25, 26, 27, 28] rfl (by decide +kernel)
set_option maxRecDepth 20000 in
theorem gX6_pairUp_X6_firstKeyFor : GoodIn wsX6_pairUp (wsV RX6 37 RX6 yX6_firstKeyFor wsX6_firstKeyFor) := goodIn_app (goodIn_of _ (by decide +kernel)) ggX6_pairUp_X6_firstKeyFor
theorem dX6_pairUp_0 : decode cX6_pairUp 0 = .ok (.aload_n 0, 1) := by decide +kernel
theorem dX6_pairUp_1 : decode cX6_pairUp 1 = .ok (.invokevirtual 30, 3) := by decide +kernel
theorem dX6_pairUp_4 : decode cX6_pairUp 4 = .ok (.aload_n 0, 1) := by decide +kernel
theorem dX6_pairUp_5 : decode cX6_pairUp 5 = .ok (.aload_n 0, 1) := by decide +kernel
theorem dX6_pairUp_6 : decode cX6_pairUp 6 = .ok (.getfield 15, 3) := by decide +kernel
theorem dX6_pairUp_9 : decode cX6_pairUp 9 = .ok (.iconst 0, 1) := by decide +kernel
theorem dX6_pairUp_10 : decode cX6_pairUp 10 = .ok (.iaload, 1) := by decide +kernel
theorem dX6_pairUp_11 : decode cX6_pairUp 11 = .ok (.putfield 33, 3) := by decide +kernel
theorem dX6_pairUp_14 : decode cX6_pairUp 14 = .ok (.iconst 0, 1) := by decide +kernel
theorem dX6_pairUp_15 : decode cX6_pairUp 15 = .ok (.istore_n 1, 1) := by decide +kernel
theorem dX6_pairUp_16 : decode cX6_pairUp 16 = .ok (.iconst 0, 1) := by decide +kernel
theorem dX6_pairUp_17 : decode cX6_pairUp 17 = .ok (.istore_n 2, 1) := by decide +kernel
theorem dX6_pairUp_18 : decode cX6_pairUp 18 = .ok (.iload_n 2, 1) := by decide +kernel
theorem dX6_pairUp_19 : decode cX6_pairUp 19 = .ok (.bipush 7, 2) := by decide +kernel
theorem dX6_pairUp_21 : decode cX6_pairUp 21 = .ok (.if_icmp .ge 42, 3) := by decide +kernel
theorem dX6_pairUp_24 : decode cX6_pairUp 24 = .ok (.aload_n 0, 1) := by decide +kernel
theorem dX6_pairUp_25 : decode cX6_pairUp 25 = .ok (.getfield 18, 3) := by decide +kernel
theorem dX6_pairUp_28 : decode cX6_pairUp 28 = .ok (.iload_n 2, 1) := by decide +kernel
theorem dX6_pairUp_29 : decode cX6_pairUp 29 = .ok (.aload_n 0, 1) := by decide +kernel
theorem dX6_pairUp_30 : decode cX6_pairUp 30 = .ok (.iload_n 2, 1) := by decide +kernel
theorem dX6_pairUp_31 : decode cX6_pairUp 31 = .ok (.iload_n 1, 1) := by decide +kernel
theorem dX6_pairUp_32 : decode cX6_pairUp 32 = .ok (.invokevirtual 37, 3) := by decide +kernel
theorem dX6_pairUp_35 : decode cX6_pairUp 35 = .ok (.iastore, 1) := by decide +kernel
theorem dX6_pairUp_36 : decode cX6_pairUp 36 = .ok (.aload_n 0, 1) := by decide +kernel
theorem dX6_pairUp_37 : decode cX6_pairUp 37 = .ok (.getfield 18, 3) := by decide +kernel
theorem dX6_pairUp_40 : decode cX6_pairUp 40 = .ok (.iload_n 2, 1) := by decide +kernel
theorem dX6_pairUp_41 : decode cX6_pairUp 41 = .ok (.iaload, 1) := by decide +kernel
theorem dX6_pairUp_42 : decode cX6_pairUp 42 = .ok (.iconst (-1), 1) := by decide +kernel
theorem dX6_pairUp_43 : decode cX6_pairUp 43 = .ok (.if_icmp .eq 14, 3) := by decide +kernel
theorem dX6_pairUp_46 : decode cX6_pairUp 46 = .ok (.iload_n 1, 1) := by decide +kernel
theorem dX6_pairUp_47 : decode cX6_pairUp 47 = .ok (.iconst 1, 1) := by decide +kernel
theorem dX6_pairUp_48 : decode cX6_pairUp 48 = .ok (.aload_n 0, 1) := by decide +kernel
theorem dX6_pairUp_49 : decode cX6_pairUp 49 = .ok (.getfield 18, 3) := by decide +kernel
theorem dX6_pairUp_52 : decode cX6_pairUp 52 = .ok (.iload_n 2, 1) := by decide +kernel
theorem dX6_pairUp_53 : decode cX6_pairUp 53 = .ok (.iaload, 1) := by decide +kernel
theorem dX6_pairUp_54 : decode cX6_pairUp 54 = .ok (.ishl, 1) := by decide +kernel
theorem dX6_pairUp_55 : decode cX6_pairUp 55 = .ok (.ior, 1) := by decide +kernel
theorem dX6_pairUp_56 : decode cX6_pairUp 56 = .ok (.istore_n 1, 1) := by decide +kernel
theorem dX6_pairUp_57 : decode cX6_pairUp 57 = .ok (.iinc 2 1, 3) := by decide +kernel
theorem dX6_pairUp_60 : decode cX6_pairUp 60 = .ok (.goto (-42), 3) := by decide +kernel
theorem dX6_pairUp_63 : decode cX6_pairUp 63 = .ok (.return_, 1) := by decide +kernel
set_option maxRecDepth 20000 in
theorem ggX6_fillMost_X6_isFree : GoodIn wsX6_fillMost wsX6_isFree := goodIn_r _ [10, 11, 12, 13, 14, 15, 16, 17, 18] rfl (by decide +kernel)
set_option maxRecDepth 20000 in
theorem gX6_fillMost_X6_isFree : GoodIn wsX6_fillMost (wsV RX6 41 RX6 yX6_isFree wsX6_isFree) := goodIn_app (goodIn_of _ (by decide +kernel)) ggX6_fillMost_X6_isFree
theorem dX6_fillMost_0 : decode cX6_fillMost 0 = .ok (.iconst 0, 1) := by decide +kernel
theorem dX6_fillMost_1 : decode cX6_fillMost 1 = .ok (.istore_n 1, 1) := by decide +kernel
theorem dX6_fillMost_2 : decode cX6_fillMost 2 = .ok (.iload_n 1, 1) := by decide +kernel
theorem dX6_fillMost_3 : decode cX6_fillMost 3 = .ok (.sipush 128, 3) := by decide +kernel
theorem dX6_fillMost_6 : decode cX6_fillMost 6 = .ok (.if_icmp .ge 20, 3) := by decide +kernel
theorem dX6_fillMost_9 : decode cX6_fillMost 9 = .ok (.aload_n 0, 1) := by decide +kernel
theorem dX6_fillMost_10 : decode cX6_fillMost 10 = .ok (.getfield 15, 3) := by decide +kernel
theorem dX6_fillMost_13 : decode cX6_fillMost 13 = .ok (.sipush 896, 3) := by decide +kernel
theorem dX6_fillMost_16 : decode cX6_fillMost 16 = .ok (.iload_n 1, 1) := by decide +kernel
theorem dX6_fillMost_17 : decode cX6_fillMost 17 = .ok (.iadd, 1) := by decide +kernel
theorem dX6_fillMost_18 : decode cX6_fillMost 18 = .ok (.iconst 0, 1) := by decide +kernel
theorem dX6_fillMost_19 : decode cX6_fillMost 19 = .ok (.iastore, 1) := by decide +kernel
theorem dX6_fillMost_20 : decode cX6_fillMost 20 = .ok (.iinc 1 1, 3) := by decide +kernel
theorem dX6_fillMost_23 : decode cX6_fillMost 23 = .ok (.goto (-21), 3) := by decide +kernel
theorem dX6_fillMost_26 : decode cX6_fillMost 26 = .ok (.bipush 6, 2) := by decide +kernel
theorem dX6_fillMost_28 : decode cX6_fillMost 28 = .ok (.istore_n 1, 1) := by decide +kernel
theorem dX6_fillMost_29 : decode cX6_fillMost 29 = .ok (.iload_n 1, 1) := by decide +kernel
theorem dX6_fillMost_30 : decode cX6_fillMost 30 = .ok (.ifCond .lt 105, 3) := by decide +kernel
theorem dX6_fillMost_33 : decode cX6_fillMost 33 = .ok (.iconst 0, 1) := by decide +kernel
theorem dX6_fillMost_34 : decode cX6_fillMost 34 = .ok (.istore_n 2, 1) := by decide +kernel
theorem dX6_fillMost_35 : decode cX6_fillMost 35 = .ok (.iload_n 2, 1) := by decide +kernel
theorem dX6_fillMost_36 : decode cX6_fillMost 36 = .ok (.sipush 128, 3) := by decide +kernel
theorem dX6_fillMost_39 : decode cX6_fillMost 39 = .ok (.if_icmp .ge 90, 3) := by decide +kernel
theorem dX6_fillMost_42 : decode cX6_fillMost 42 = .ok (.aload_n 0, 1) := by decide +kernel
theorem dX6_fillMost_43 : decode cX6_fillMost 43 = .ok (.getfield 15, 3) := by decide +kernel
theorem dX6_fillMost_46 : decode cX6_fillMost 46 = .ok (.iload_n 1, 1) := by decide +kernel
theorem dX6_fillMost_47 : decode cX6_fillMost 47 = .ok (.iconst 1, 1) := by decide +kernel
theorem dX6_fillMost_48 : decode cX6_fillMost 48 = .ok (.iadd, 1) := by decide +kernel
theorem dX6_fillMost_49 : decode cX6_fillMost 49 = .ok (.sipush 128, 3) := by decide +kernel
theorem dX6_fillMost_52 : decode cX6_fillMost 52 = .ok (.imul, 1) := by decide +kernel
theorem dX6_fillMost_53 : decode cX6_fillMost 53 = .ok (.iload_n 2, 1) := by decide +kernel
theorem dX6_fillMost_54 : decode cX6_fillMost 54 = .ok (.iadd, 1) := by decide +kernel
theorem dX6_fillMost_55 : decode cX6_fillMost 55 = .ok (.iaload, 1) := by decide +kernel
theorem dX6_fillMost_56 : decode cX6_fillMost 56 = .ok (.istore_n 3, 1) := by decide +kernel
theorem dX6_fillMost_57 : decode cX6_fillMost 57 = .ok (.iconst 0, 1) := by decide +kernel
theorem dX6_fillMost_58 : decode cX6_fillMost 58 = .ok (.istore 4, 2) := by decide +kernel
theorem dX6_fillMost_60 : decode cX6_fillMost 60 = .ok (.iload 4, 2) := by decide +kernel
theorem dX6_fillMost_62 : decode cX6_fillMost 62 = .ok (.bipush 7, 2) := by decide +kernel
theorem dX6_fillMost_64 : decode cX6_fillMost 64 = .ok (.if_icmp .ge 46, 3) := by decide +kernel
theorem dX6_fillMost_67 : decode cX6_fillMost 67 = .ok (.aload_n 0, 1) := by decide +kernel
theorem dX6_fillMost_68 : decode cX6_fillMost 68 = .ok (.iload 4, 2) := by decide +kernel
theorem dX6_fillMost_70 : decode cX6_fillMost 70 = .ok (.iload_n 1, 1) := by decide +kernel
theorem dX6_fillMost_71 : decode cX6_fillMost 71 = .ok (.iload_n 2, 1) := by decide +kernel
theorem dX6_fillMost_72 : decode cX6_fillMost 72 = .ok (.invokevirtual 41, 3) := by decide +kernel
theorem dX6_fillMost_75 : decode cX6_fillMost 75 = .ok (.ifCond .eq 29, 3) := by decide +kernel
theorem dX6_fillMost_78 : decode cX6_fillMost 78 = .ok (.iload_n 3, 1) := by decide +kernel
theorem dX6_fillMost_79 : decode cX6_fillMost 79 = .ok (.iconst 1, 1) := by decide +kernel
theorem dX6_fillMost_80 : decode cX6_fillMost 80 = .ok (.aload_n 0, 1) := by decide +kernel
theorem dX6_fillMost_81 : decode cX6_fillMost 81 = .ok (.getfield 15, 3) := by decide +kernel
theorem dX6_fillMost_84 : decode cX6_fillMost 84 = .ok (.iload_n 1, 1) := by decide +kernel
theorem dX6_fillMost_85 : decode cX6_fillMost 85 = .ok (.iconst 1, 1) := by decide +kernel
theorem dX6_fillMost_86 : decode cX6_fillMost 86 = .ok (.iadd, 1) := by decide +kernel
theorem dX6_fillMost_87 : decode cX6_fillMost 87 = .ok (.sipush 128, 3) := by decide +kernel
theorem dX6_fillMost_90 : decode cX6_fillMost 90 = .ok (.imul, 1) := by decide +kernel
theorem dX6_fillMost_91 : decode cX6_fillMost 91 = .ok (.iload_n 2, 1) := by decide +kernel
theorem dX6_fillMost_92 : decode cX6_fillMost 92 = .ok (.iconst 1, 1) := by decide +kernel
theorem dX6_fillMost_93 : decode cX6_fillMost 93 = .ok (.iload 4, 2) := by decide +kernel
theorem dX6_fillMost_95 : decode cX6_fillMost 95 = .ok (.ishl, 1) := by decide +kernel
theorem dX6_fillMost_96 : decode cX6_fillMost 96 = .ok (.ior, 1) := by decide +kernel
theorem dX6_fillMost_97 : decode cX6_fillMost 97 = .ok (.iadd, 1) := by decide +kernel
theorem dX6_fillMost_98 : decode cX6_fillMost 98 = .ok (.iaload, 1) := by decide +kernel
theorem dX6_fillMost_99 : decode cX6_fillMost 99 = .ok (.iadd, 1) := by decide +kernel
theorem dX6_fillMost_100 : decode cX6_fillMost 100 = .ok (.invokestatic 45, 3) := by decide +kernel
theorem dX6_fillMost_103 : decode cX6_fillMost 103 = .ok (.istore_n 3, 1) := by decide +kernel
theorem dX6_fillMost_104 : decode cX6_fillMost 104 = .ok (.iinc 4 1, 3) := by decide +kernel
theorem dX6_fillMost_107 : decode cX6_fillMost 107 = .ok (.goto (-47), 3) := by decide +kernel
theorem dX6_fillMost_110 : decode cX6_fillMost 110 = .ok (.aload_n 0, 1) := by decide +kernel
theorem dX6_fillMost_111 : decode cX6_fillMost 111 = .ok (.getfield 15, 3) := by decide +kernel
theorem dX6_fillMost_114 : decode cX6_fillMost 114 = .ok (.iload_n 1, 1) := by decide +kernel
theorem dX6_fillMost_115 : decode cX6_fillMost 115 = .ok (.sipush 128, 3) := by decide +kernel
theorem dX6_fillMost_118 : decode cX6_fillMost 118 = .ok (.imul, 1) := by decide +kernel
theorem dX6_fillMost_119 : decode cX6_fillMost 119 = .ok (.iload_n 2, 1) := by decide +kernel
theorem dX6_fillMost_120 : decode cX6_fillMost 120 = .ok (.iadd, 1) := by decide +kernel
theorem dX6_fillMost_121 : decode cX6_fillMost 121 = .ok (.iload_n 3, 1) := by decide +kernel
theorem dX6_fillMost_122 : decode cX6_fillMost 122 = .ok (.iastore, 1) := by decide +kernel
theorem dX6_fillMost_123 : decode cX6_fillMost 123 = .ok (.iinc 2 1, 3) := by decide +kernel
theorem dX6_fillMost_126 : decode cX6_fillMost 126 = .ok (.goto (-91), 3) := by decide +kernel
theorem dX6_fillMost_129 : decode cX6_fillMost 129 = .ok (.iinc 1 (-1), 3) := by decide +kernel
theorem dX6_fillMost_132 : decode cX6_fillMost 132 = .ok (.goto (-103), 3) := by decide +kernel
theorem dX6_fillMost_135 : decode cX6_fillMost 135 = .ok (.return_, 1) := by decide +kernel
set_option maxRecDepth 20000 in
theorem ggX6_firstKeyFor_X6_isFree : GoodIn wsX6_firstKeyFor wsX6_isFree := goodIn_r _ [6, 7, 8, 9, 10, 11, 12, 13, 14] rfl (by decide +kernel)
set_option maxRecDepth 20000 in
theorem gX6_firstKeyFor_X6_isFree : GoodIn wsX6_firstKeyFor (wsV RX6 41 RX6 yX6_isFree wsX6_isFree) := goodIn_app (goodIn_of _ (by decide +kernel)) ggX6_firstKeyFor_X6_isFree
theorem dX6_firstKeyFor_0 : decode cX6_firstKeyFor 0 = .ok (.iconst 0, 1) := by decide +kernel
theorem dX6_firstKeyFor_1 : decode cX6_firstKeyFor 1 = .ok (.istore_n 3, 1) := by decide +kernel
theorem dX6_firstKeyFor_2 : decode cX6_firstKeyFor 2 = .ok (.iload_n 3, 1) := by decide +kernel
theorem dX6_firstKeyFor_3 : decode cX6_firstKeyFor 3 = .ok (.bipush 7, 2) := by decide +kernel
theorem dX6_firstKeyFor_5 : decode cX6_firstKeyFor 5 = .ok (.if_icmp .ge 56, 3) := by decide +kernel
theorem dX6_firstKeyFor_8 : decode cX6_firstKeyFor 8 = .ok (.aload_n 0, 1) := by decide +kernel
theorem dX6_firstKeyFor_9 : decode cX6_firstKeyFor 9 = .ok (.iload_n 3, 1) := by decide +kernel
theorem dX6_firstKeyFor_10 : decode cX6_firstKeyFor 10 = .ok (.iload_n 1, 1) := by decide +kernel
theorem dX6_firstKeyFor_11 : decode cX6_firstKeyFor 11 = .ok (.iload_n 2, 1) := by decide +kernel
theorem dX6_firstKeyFor_12 : decode cX6_firstKeyFor 12 = .ok (.invokevirtual 41, 3) := by decide +kernel
theorem dX6_firstKeyFor_15 : decode cX6_firstKeyFor 15 = .ok (.ifCond .eq 40, 3) := by decide +kernel
theorem dX6_firstKeyFor_18 : decode cX6_firstKeyFor 18 = .ok (.iconst 1, 1) := by decide +kernel
theorem dX6_firstKeyFor_19 : decode cX6_firstKeyFor 19 = .ok (.aload_n 0, 1) := by decide +kernel
theorem dX6_firstKeyFor_20 : decode cX6_firstKeyFor 20 = .ok (.getfield 15, 3) := by decide +kernel
theorem dX6_firstKeyFor_23 : decode cX6_firstKeyFor 23 = .ok (.iload_n 1, 1) := by decide +kernel
theorem dX6_firstKeyFor_24 : decode cX6_firstKeyFor 24 = .ok (.iconst 1, 1) := by decide +kernel
theorem dX6_firstKeyFor_25 : decode cX6_firstKeyFor 25 = .ok (.iadd, 1) := by decide +kernel
theorem dX6_firstKeyFor_26 : decode cX6_firstKeyFor 26 = .ok (.sipush 128, 3) := by decide +kernel
theorem dX6_firstKeyFor_29 : decode cX6_firstKeyFor 29 = .ok (.imul, 1) := by decide +kernel
theorem dX6_firstKeyFor_30 : decode cX6_firstKeyFor 30 = .ok (.iload_n 2, 1) := by decide +kernel
theorem dX6_firstKeyFor_31 : decode cX6_firstKeyFor 31 = .ok (.iconst 1, 1) := by decide +kernel
theorem dX6_firstKeyFor_32 : decode cX6_firstKeyFor 32 = .ok (.iload_n 3, 1) := by decide +kernel
theorem dX6_firstKeyFor_33 : decode cX6_firstKeyFor 33 = .ok (.ishl, 1) := by decide +kernel
theorem dX6_firstKeyFor_34 : decode cX6_firstKeyFor 34 = .ok (.ior, 1) := by decide +kernel
theorem dX6_firstKeyFor_35 : decode cX6_firstKeyFor 35 = .ok (.iadd, 1) := by decide +kernel
theorem dX6_firstKeyFor_36 : decode cX6_firstKeyFor 36 = .ok (.iaload, 1) := by decide +kernel
theorem dX6_firstKeyFor_37 : decode cX6_firstKeyFor 37 = .ok (.iadd, 1) := by decide +kernel
theorem dX6_firstKeyFor_38 : decode cX6_firstKeyFor 38 = .ok (.aload_n 0, 1) := by decide +kernel
theorem dX6_firstKeyFor_39 : decode cX6_firstKeyFor 39 = .ok (.getfield 15, 3) := by decide +kernel
theorem dX6_firstKeyFor_42 : decode cX6_firstKeyFor 42 = .ok (.iload_n 1, 1) := by decide +kernel
theorem dX6_firstKeyFor_43 : decode cX6_firstKeyFor 43 = .ok (.sipush 128, 3) := by decide +kernel
theorem dX6_firstKeyFor_46 : decode cX6_firstKeyFor 46 = .ok (.imul, 1) := by decide +kernel
theorem dX6_firstKeyFor_47 : decode cX6_firstKeyFor 47 = .ok (.iload_n 2, 1) := by decide +kernel
theorem dX6_firstKeyFor_48 : decode cX6_firstKeyFor 48 = .ok (.iadd, 1) := by decide +kernel
theorem dX6_firstKeyFor_49 : decode cX6_firstKeyFor 49 = .ok (.iaload, 1) := by decide +kernel
theorem dX6_firstKeyFor_50 : decode cX6_firstKeyFor 50 = .ok (.if_icmp .ne 5, 3) := by decide +kernel
theorem dX6_firstKeyFor_53 : decode cX6_firstKeyFor 53 = .ok (.iload_n 3, 1) := by decide +kernel
theorem dX6_firstKeyFor_54 : decode cX6_firstKeyFor 54 = .ok (.ireturn, 1) := by decide +kernel
theorem dX6_firstKeyFor_55 : decode cX6_firstKeyFor 55 = .ok (.iinc 3 1, 3) := by decide +kernel
theorem dX6_firstKeyFor_58 : decode cX6_firstKeyFor 58 = .ok (.goto (-56), 3) := by decide +kernel
theorem dX6_firstKeyFor_61 : decode cX6_firstKeyFor 61 = .ok (.iconst (-1), 1) := by decide +kernel
theorem dX6_firstKeyFor_62 : decode cX6_firstKeyFor 62 = .ok (.ireturn, 1) := by decide +kernel
theorem dX6_isFree_0 : decode cX6_isFree 0 = .ok (.aload_n 0, 1) := by decide +kernel
theorem dX6_isFree_1 : decode cX6_isFree 1 = .ok (.getfield 9, 3) := by decide +kernel
theorem dX6_isFree_4 : decode cX6_isFree 4 = .ok (.iload_n 2, 1) := by decide +kernel
theorem dX6_isFree_5 : decode cX6_isFree 5 = .ok (.iaload, 1) := by decide +kernel
theorem dX6_isFree_6 : decode cX6_isFree 6 = .ok (.iload_n 1, 1) := by decide +kernel
theorem dX6_isFree_7 : decode cX6_isFree 7 = .ok (.ishr, 1) := by decide +kernel
theorem dX6_isFree_8 : decode cX6_isFree 8 = .ok (.iconst 1, 1) := by decide +kernel
theorem dX6_isFree_9 : decode cX6_isFree 9 = .ok (.iand, 1) := by decide +kernel
theorem dX6_isFree_10 : decode cX6_isFree 10 = .ok (.iconst 1, 1) := by decide +kernel
theorem dX6_isFree_11 : decode cX6_isFree 11 = .ok (.if_icmp .ne 15, 3) := by decide +kernel
theorem dX6_isFree_14 : decode cX6_isFree 14 = .ok (.iload_n 3, 1) := by decide +kernel
theorem dX6_isFree_15 : decode cX6_isFree 15 = .ok (.iload_n 1, 1) := by decide +kernel
theorem dX6_isFree_16 : decode cX6_isFree 16 = .ok (.ishr, 1) := by decide +kernel
theorem dX6_isFree_17 : decode cX6_isFree 17 = .ok (.iconst 1, 1) := by decide +kernel
theorem dX6_isFree_18 : decode cX6_isFree 18 = .ok (.iand, 1) := by decide +kernel
theorem dX6_isFree_19 : decode cX6_isFree 19 = .ok (.ifCond .ne 7, 3) := by decide +kernel
theorem dX6_isFree_22 : decode cX6_isFree 22 = .ok (.iconst 1, 1) := by decide +kernel
theorem dX6_isFree_23 : decode cX6_isFree 23 = .ok (.goto 4, 3) := by decide +kernel
theorem dX6_isFree_26 : decode cX6_isFree 26 = .ok (.iconst 0, 1) := by decide +kernel
theorem dX6_isFree_27 : decode cX6_isFree 27 = .ok (.ireturn, 1) := by decide +kernel
theorem dX6_startWork_0 : decode cX6_startWork 0 = .ok (.aload_n 0, 1) := by decide +kernel
theorem dX6_startWork_1 : decode cX6_startWork 1 = .ok (.getfield 27, 3) := by decide +kernel
theorem dX6_startWork_4 : decode cX6_startWork 4 = .ok (.iconst 0, 1) := by decide +kernel
theorem dX6_startWork_5 : decode cX6_startWork 5 = .ok (.iconst 0, 1) := by decide +kernel
theorem dX6_startWork_6 : decode cX6_startWork 6 = .ok (.iastore, 1) := by decide +kernel
theorem dX6_startWork_7 : decode cX6_startWork 7 = .ok (.iconst 1, 1) := by decide +kernel
theorem dX6_startWork_8 : decode cX6_startWork 8 = .ok (.istore_n 1, 1) := by decide +kernel
theorem dX6_startWork_9 : decode cX6_startWork 9 = .ok (.iload_n 1, 1) := by decide +kernel
theorem dX6_startWork_10 : decode cX6_startWork 10 = .ok (.sipush 128, 3) := by decide +kernel
theorem dX6_startWork_13 : decode cX6_startWork 13 = .ok (.if_icmp .ge 17, 3) := by decide +kernel
theorem dX6_startWork_16 : decode cX6_startWork 16 = .ok (.aload_n 0, 1) := by decide +kernel
theorem dX6_startWork_17 : decode cX6_startWork 17 = .ok (.getfield 27, 3) := by decide +kernel
theorem dX6_startWork_20 : decode cX6_startWork 20 = .ok (.iload_n 1, 1) := by decide +kernel
theorem dX6_startWork_21 : decode cX6_startWork 21 = .ok (.ldc 50, 2) := by decide +kernel
theorem dX6_startWork_23 : decode cX6_startWork 23 = .ok (.iastore, 1) := by decide +kernel
theorem dX6_startWork_24 : decode cX6_startWork 24 = .ok (.iinc 1 1, 3) := by decide +kernel
theorem dX6_startWork_27 : decode cX6_startWork 27 = .ok (.goto (-18), 3) := by decide +kernel
theorem dX6_startWork_30 : decode cX6_startWork 30 = .ok (.return_, 1) := by decide +kernel
set_option maxRecDepth 20000 in
theorem ggX6_walkFrom_X6_walkThrough : GoodIn wsX6_walkFrom wsX6_walkThrough := goodIn_r _ [5, 6, 7, 8, 9, 10, 11, 12, 13, 14, 15, 16, 17, 18, 19, 20, 21, 22, 23, 24, 25, 26, 27, 28, 29, 30, 4, 31, 32, 33, 34, 35, 36, 37, 38, 39, 40, 41, 42, 43, 44, 45, 46, 47, 48, 49] rfl (by decide +kernel)
set_option maxRecDepth 20000 in
theorem gX6_walkFrom_X6_walkThrough : GoodIn wsX6_walkFrom (wsV RX6 51 RX6 yX6_walkThrough wsX6_walkThrough) := goodIn_app (goodIn_of _ (by decide +kernel)) ggX6_walkFrom_X6_walkThrough
theorem dX6_walkFrom_0 : decode cX6_walkFrom 0 = .ok (.iconst 1, 1) := by decide +kernel
theorem dX6_walkFrom_1 : decode cX6_walkFrom 1 = .ok (.istore 5, 2) := by decide +kernel
theorem dX6_walkFrom_3 : decode cX6_walkFrom 3 = .ok (.iload 5, 2) := by decide +kernel
theorem dX6_walkFrom_5 : decode cX6_walkFrom 5 = .ok (.sipush 128, 3) := by decide +kernel
theorem dX6_walkFrom_8 : decode cX6_walkFrom 8 = .ok (.if_icmp .ge 28, 3) := by decide +kernel
theorem dX6_walkFrom_11 : decode cX6_walkFrom 11 = .ok (.iload 5, 2) := by decide +kernel
theorem dX6_walkFrom_13 : decode cX6_walkFrom 13 = .ok (.iload_n 3, 1) := by decide +kernel
theorem dX6_walkFrom_14 : decode cX6_walkFrom 14 = .ok (.iconst (-1), 1) := by decide +kernel
theorem dX6_walkFrom_15 : decode cX6_walkFrom 15 = .ok (.ixor, 1) := by decide +kernel
theorem dX6_walkFrom_16 : decode cX6_walkFrom 16 = .ok (.iand, 1) := by decide +kernel
theorem dX6_walkFrom_17 : decode cX6_walkFrom 17 = .ok (.ifCond .ne 13, 3) := by decide +kernel
theorem dX6_walkFrom_20 : decode cX6_walkFrom 20 = .ok (.aload_n 0, 1) := by decide +kernel
theorem dX6_walkFrom_21 : decode cX6_walkFrom 21 = .ok (.iload 5, 2) := by decide +kernel
theorem dX6_walkFrom_23 : decode cX6_walkFrom 23 = .ok (.iload_n 1, 1) := by decide +kernel
theorem dX6_walkFrom_24 : decode cX6_walkFrom 24 = .ok (.iload_n 2, 1) := by decide +kernel
theorem dX6_walkFrom_25 : decode cX6_walkFrom 25 = .ok (.aload 4, 2) := by decide +kernel
theorem dX6_walkFrom_27 : decode cX6_walkFrom 27 = .ok (.invokevirtual 51, 3) := by decide +kernel
theorem dX6_walkFrom_30 : decode cX6_walkFrom 30 = .ok (.iinc 5 1, 3) := by decide +kernel
theorem dX6_walkFrom_33 : decode cX6_walkFrom 33 = .ok (.goto (-30), 3) := by decide +kernel
theorem dX6_walkFrom_36 : decode cX6_walkFrom 36 = .ok (.return_, 1) := by decide +kernel
set_option maxRecDepth 20000 in
theorem ggX6_walkThrough_X1_lockAt : GoodIn wsX6_walkThrough wsX1_lockAt := goodIn_r _ [14, 15, 16, 35, 36, 37, 38, 39, 40, 41] rfl (by decide +kernel)
set_option maxRecDepth 20000 in
theorem gX6_walkThrough_X1_lockAt : GoodIn wsX6_walkThrough (wsV RX6 60 RX1 yX1_lockAt wsX1_lockAt) := goodIn_app (goodIn_of _ (by decide +kernel)) ggX6_walkThrough_X1_lockAt
set_option maxRecDepth 20000 in
theorem ggX6_walkThrough_X11_minutesBetween : GoodIn wsX6_walkThrough wsX11_minutesBetween := goodIn_r _ [19, 20, 21, 8, 22] rfl (by decide +kernel)
set_option maxRecDepth 20000 in
theorem gX6_walkThrough_X11_minutesBetween_n69 : GoodIn wsX6_walkThrough (wsX11_minutesBetween) := ggX6_walkThrough_X11_minutesBetween
set_option maxRecDepth 20000 in
theorem ggX6_walkThrough_X6_minuteAfter : GoodIn wsX6_walkThrough wsX6_minuteAfter := goodIn_r _ [27, 2, 3, 5, 4, 6, 7, 8, 9, 10, 11, 12, 13, 14, 15, 16, 17, 18, 19, 20, 21, 22, 35, 36, 37, 38, 39, 40, 41, 28, 29, 30, 31, 32, 33, 34, 42, 43, 44, 45] rfl (by decide +kernel)
set_option maxRecDepth 20000 in
theorem gX6_walkThrough_X6_minuteAfter : GoodIn wsX6_walkThrough (wsV RX6 72 RX6 yX6_minuteAfter wsX6_minuteAfter) := goodIn_app (goodIn_of _ (by decide +kernel)) ggX6_walkThrough_X6_minuteAfter
theorem dX6_walkThrough_0 : decode cX6_walkThrough 0 = .ok (.aload_n 0, 1) := by decide +kernel
theorem dX6_walkThrough_1 : decode cX6_walkThrough 1 = .ok (.getfield 24, 3) := by decide +kernel
theorem dX6_walkThrough_4 : decode cX6_walkThrough 4 = .ok (.iload_n 1, 1) := by decide +kernel
theorem dX6_walkThrough_5 : decode cX6_walkThrough 5 = .ok (.ldc 50, 2) := by decide +kernel
theorem dX6_walkThrough_7 : decode cX6_walkThrough 7 = .ok (.iastore, 1) := by decide +kernel
theorem dX6_walkThrough_8 : decode cX6_walkThrough 8 = .ok (.iconst 0, 1) := by decide +kernel
theorem dX6_walkThrough_9 : decode cX6_walkThrough 9 = .ok (.istore 5, 2) := by decide +kernel
theorem dX6_walkThrough_11 : decode cX6_walkThrough 11 = .ok (.iload 5, 2) := by decide +kernel
theorem dX6_walkThrough_13 : decode cX6_walkThrough 13 = .ok (.aload 4, 2) := by decide +kernel
theorem dX6_walkThrough_15 : decode cX6_walkThrough 15 = .ok (.getfield 55, 3) := by decide +kernel
theorem dX6_walkThrough_18 : decode cX6_walkThrough 18 = .ok (.if_icmp .ge 106, 3) := by decide +kernel
theorem dX6_walkThrough_21 : decode cX6_walkThrough 21 = .ok (.aload 4, 2) := by decide +kernel
theorem dX6_walkThrough_23 : decode cX6_walkThrough 23 = .ok (.iload 5, 2) := by decide +kernel
theorem dX6_walkThrough_25 : decode cX6_walkThrough 25 = .ok (.invokevirtual 60, 3) := by decide +kernel
theorem dX6_walkThrough_28 : decode cX6_walkThrough 28 = .ok (.astore 6, 2) := by decide +kernel
theorem dX6_walkThrough_30 : decode cX6_walkThrough 30 = .ok (.iload_n 1, 1) := by decide +kernel
theorem dX6_walkThrough_31 : decode cX6_walkThrough 31 = .ok (.iload 5, 2) := by decide +kernel
theorem dX6_walkThrough_33 : decode cX6_walkThrough 33 = .ok (.ishr, 1) := by decide +kernel
theorem dX6_walkThrough_34 : decode cX6_walkThrough 34 = .ok (.iconst 1, 1) := by decide +kernel
theorem dX6_walkThrough_35 : decode cX6_walkThrough 35 = .ok (.iand, 1) := by decide +kernel
theorem dX6_walkThrough_36 : decode cX6_walkThrough 36 = .ok (.iconst 1, 1) := by decide +kernel
theorem dX6_walkThrough_37 : decode cX6_walkThrough 37 = .ok (.if_icmp .ne 81, 3) := by decide +kernel
theorem dX6_walkThrough_40 : decode cX6_walkThrough 40 = .ok (.aload 6, 2) := by decide +kernel
theorem dX6_walkThrough_42 : decode cX6_walkThrough 42 = .ok (.ifnull 76, 3) := by decide +kernel
theorem dX6_walkThrough_45 : decode cX6_walkThrough 45 = .ok (.iload_n 1, 1) := by decide +kernel
theorem dX6_walkThrough_46 : decode cX6_walkThrough 46 = .ok (.iconst 1, 1) := by decide +kernel
theorem dX6_walkThrough_47 : decode cX6_walkThrough 47 = .ok (.iload 5, 2) := by decide +kernel
theorem dX6_walkThrough_49 : decode cX6_walkThrough 49 = .ok (.ishl, 1) := by decide +kernel
theorem dX6_walkThrough_50 : decode cX6_walkThrough 50 = .ok (.if_icmp .ne 17, 3) := by decide +kernel
theorem dX6_walkThrough_53 : decode cX6_walkThrough 53 = .ok (.iload_n 3, 1) := by decide +kernel
theorem dX6_walkThrough_54 : decode cX6_walkThrough 54 = .ok (.iload_n 2, 1) := by decide +kernel
theorem dX6_walkThrough_55 : decode cX6_walkThrough 55 = .ok (.aload 6, 2) := by decide +kernel
theorem dX6_walkThrough_57 : decode cX6_walkThrough 57 = .ok (.getfield 64, 3) := by decide +kernel
theorem dX6_walkThrough_60 : decode cX6_walkThrough 60 = .ok (.invokestatic 69, 3) := by decide +kernel
theorem dX6_walkThrough_63 : decode cX6_walkThrough 63 = .ok (.iadd, 1) := by decide +kernel
theorem dX6_walkThrough_64 : decode cX6_walkThrough 64 = .ok (.goto 17, 3) := by decide +kernel
theorem dX6_walkThrough_67 : decode cX6_walkThrough 67 = .ok (.aload_n 0, 1) := by decide +kernel
theorem dX6_walkThrough_68 : decode cX6_walkThrough 68 = .ok (.iload_n 1, 1) := by decide +kernel
theorem dX6_walkThrough_69 : decode cX6_walkThrough 69 = .ok (.iconst 1, 1) := by decide +kernel
theorem dX6_walkThrough_70 : decode cX6_walkThrough 70 = .ok (.iload 5, 2) := by decide +kernel
theorem dX6_walkThrough_72 : decode cX6_walkThrough 72 = .ok (.ishl, 1) := by decide +kernel
theorem dX6_walkThrough_73 : decode cX6_walkThrough 73 = .ok (.ixor, 1) := by decide +kernel
theorem dX6_walkThrough_74 : decode cX6_walkThrough 74 = .ok (.aload 6, 2) := by decide +kernel
theorem dX6_walkThrough_76 : decode cX6_walkThrough 76 = .ok (.aload 4, 2) := by decide +kernel
theorem dX6_walkThrough_78 : decode cX6_walkThrough 78 = .ok (.invokevirtual 72, 3) := by decide +kernel
theorem dX6_walkThrough_81 : decode cX6_walkThrough 81 = .ok (.istore 7, 2) := by decide +kernel
theorem dX6_walkThrough_83 : decode cX6_walkThrough 83 = .ok (.aload_n 0, 1) := by decide +kernel
theorem dX6_walkThrough_84 : decode cX6_walkThrough 84 = .ok (.getfield 21, 3) := by decide +kernel
theorem dX6_walkThrough_87 : decode cX6_walkThrough 87 = .ok (.iload_n 1, 1) := by decide +kernel
theorem dX6_walkThrough_88 : decode cX6_walkThrough 88 = .ok (.bipush 7, 2) := by decide +kernel
theorem dX6_walkThrough_90 : decode cX6_walkThrough 90 = .ok (.imul, 1) := by decide +kernel
theorem dX6_walkThrough_91 : decode cX6_walkThrough 91 = .ok (.iload 5, 2) := by decide +kernel
theorem dX6_walkThrough_93 : decode cX6_walkThrough 93 = .ok (.iadd, 1) := by decide +kernel
theorem dX6_walkThrough_94 : decode cX6_walkThrough 94 = .ok (.iload 7, 2) := by decide +kernel
theorem dX6_walkThrough_96 : decode cX6_walkThrough 96 = .ok (.iconst 2, 1) := by decide +kernel
theorem dX6_walkThrough_97 : decode cX6_walkThrough 97 = .ok (.iadd, 1) := by decide +kernel
theorem dX6_walkThrough_98 : decode cX6_walkThrough 98 = .ok (.iastore, 1) := by decide +kernel
theorem dX6_walkThrough_99 : decode cX6_walkThrough 99 = .ok (.aload_n 0, 1) := by decide +kernel
theorem dX6_walkThrough_100 : decode cX6_walkThrough 100 = .ok (.getfield 24, 3) := by decide +kernel
theorem dX6_walkThrough_103 : decode cX6_walkThrough 103 = .ok (.iload_n 1, 1) := by decide +kernel
theorem dX6_walkThrough_104 : decode cX6_walkThrough 104 = .ok (.aload_n 0, 1) := by decide +kernel
theorem dX6_walkThrough_105 : decode cX6_walkThrough 105 = .ok (.getfield 24, 3) := by decide +kernel
theorem dX6_walkThrough_108 : decode cX6_walkThrough 108 = .ok (.iload_n 1, 1) := by decide +kernel
theorem dX6_walkThrough_109 : decode cX6_walkThrough 109 = .ok (.iaload, 1) := by decide +kernel
theorem dX6_walkThrough_110 : decode cX6_walkThrough 110 = .ok (.iload 7, 2) := by decide +kernel
theorem dX6_walkThrough_112 : decode cX6_walkThrough 112 = .ok (.iconst 2, 1) := by decide +kernel
theorem dX6_walkThrough_113 : decode cX6_walkThrough 113 = .ok (.iadd, 1) := by decide +kernel
theorem dX6_walkThrough_114 : decode cX6_walkThrough 114 = .ok (.invokestatic 76, 3) := by decide +kernel
theorem dX6_walkThrough_117 : decode cX6_walkThrough 117 = .ok (.iastore, 1) := by decide +kernel
theorem dX6_walkThrough_118 : decode cX6_walkThrough 118 = .ok (.iinc 5 1, 3) := by decide +kernel
theorem dX6_walkThrough_121 : decode cX6_walkThrough 121 = .ok (.goto (-110), 3) := by decide +kernel
theorem dX6_walkThrough_124 : decode cX6_walkThrough 124 = .ok (.return_, 1) := by decide +kernel
set_option maxRecDepth 20000 in
theorem ggX6_minuteAfter_X1_lockAt : GoodIn wsX6_minuteAfter wsX1_lockAt := goodIn_r _ [13, 14, 15, 22, 23, 24, 25, 26, 27, 28] rfl (by decide +kernel)
set_option maxRecDepth 20000 in
theorem gX6_minuteAfter_X1_lockAt : GoodIn wsX6_minuteAfter (wsV RX6 60 RX1 yX1_lockAt wsX1_lockAt) := goodIn_app (goodIn_of _ (by decide +kernel)) ggX6_minuteAfter_X1_lockAt
set_option maxRecDepth 20000 in
theorem ggX6_minuteAfter_X11_minutesBetween : GoodIn wsX6_minuteAfter wsX11_minutesBetween := goodIn_r _ [18, 19, 20, 7, 21] rfl (by decide +kernel)
set_option maxRecDepth 20000 in
theorem gX6_minuteAfter_X11_minutesBetween_n69 : GoodIn wsX6_minuteAfter (wsX11_minutesBetween) := ggX6_minuteAfter_X11_minutesBetween
theorem dX6_minuteAfter_0 : decode cX6_minuteAfter 0 = .ok (.ldc 50, 2) := by decide +kernel
theorem dX6_minuteAfter_2 : decode cX6_minuteAfter 2 = .ok (.istore 4, 2) := by decide +kernel
theorem dX6_minuteAfter_4 : decode cX6_minuteAfter 4 = .ok (.iconst 0, 1) := by decide +kernel
theorem dX6_minuteAfter_5 : decode cX6_minuteAfter 5 = .ok (.istore 5, 2) := by decide +kernel
theorem dX6_minuteAfter_7 : decode cX6_minuteAfter 7 = .ok (.iload 5, 2) := by decide +kernel
theorem dX6_minuteAfter_9 : decode cX6_minuteAfter 9 = .ok (.aload_n 3, 1) := by decide +kernel
theorem dX6_minuteAfter_10 : decode cX6_minuteAfter 10 = .ok (.getfield 55, 3) := by decide +kernel
theorem dX6_minuteAfter_13 : decode cX6_minuteAfter 13 = .ok (.if_icmp .ge 64, 3) := by decide +kernel
theorem dX6_minuteAfter_16 : decode cX6_minuteAfter 16 = .ok (.aload_n 3, 1) := by decide +kernel
theorem dX6_minuteAfter_17 : decode cX6_minuteAfter 17 = .ok (.iload 5, 2) := by decide +kernel
theorem dX6_minuteAfter_19 : decode cX6_minuteAfter 19 = .ok (.invokevirtual 60, 3) := by decide +kernel
theorem dX6_minuteAfter_22 : decode cX6_minuteAfter 22 = .ok (.astore 6, 2) := by decide +kernel
theorem dX6_minuteAfter_24 : decode cX6_minuteAfter 24 = .ok (.iload_n 1, 1) := by decide +kernel
theorem dX6_minuteAfter_25 : decode cX6_minuteAfter 25 = .ok (.iload 5, 2) := by decide +kernel
theorem dX6_minuteAfter_27 : decode cX6_minuteAfter 27 = .ok (.ishr, 1) := by decide +kernel
theorem dX6_minuteAfter_28 : decode cX6_minuteAfter 28 = .ok (.iconst 1, 1) := by decide +kernel
theorem dX6_minuteAfter_29 : decode cX6_minuteAfter 29 = .ok (.iand, 1) := by decide +kernel
theorem dX6_minuteAfter_30 : decode cX6_minuteAfter 30 = .ok (.iconst 1, 1) := by decide +kernel
theorem dX6_minuteAfter_31 : decode cX6_minuteAfter 31 = .ok (.if_icmp .ne 40, 3) := by decide +kernel
theorem dX6_minuteAfter_34 : decode cX6_minuteAfter 34 = .ok (.aload 6, 2) := by decide +kernel
theorem dX6_minuteAfter_36 : decode cX6_minuteAfter 36 = .ok (.ifnull 35, 3) := by decide +kernel
theorem dX6_minuteAfter_39 : decode cX6_minuteAfter 39 = .ok (.iload 4, 2) := by decide +kernel
theorem dX6_minuteAfter_41 : decode cX6_minuteAfter 41 = .ok (.aload_n 0, 1) := by decide +kernel
theorem dX6_minuteAfter_42 : decode cX6_minuteAfter 42 = .ok (.getfield 21, 3) := by decide +kernel
theorem dX6_minuteAfter_45 : decode cX6_minuteAfter 45 = .ok (.iload_n 1, 1) := by decide +kernel
theorem dX6_minuteAfter_46 : decode cX6_minuteAfter 46 = .ok (.bipush 7, 2) := by decide +kernel
theorem dX6_minuteAfter_48 : decode cX6_minuteAfter 48 = .ok (.imul, 1) := by decide +kernel
theorem dX6_minuteAfter_49 : decode cX6_minuteAfter 49 = .ok (.iload 5, 2) := by decide +kernel
theorem dX6_minuteAfter_51 : decode cX6_minuteAfter 51 = .ok (.iadd, 1) := by decide +kernel
theorem dX6_minuteAfter_52 : decode cX6_minuteAfter 52 = .ok (.iaload, 1) := by decide +kernel
theorem dX6_minuteAfter_53 : decode cX6_minuteAfter 53 = .ok (.aload 6, 2) := by decide +kernel
theorem dX6_minuteAfter_55 : decode cX6_minuteAfter 55 = .ok (.getfield 64, 3) := by decide +kernel
theorem dX6_minuteAfter_58 : decode cX6_minuteAfter 58 = .ok (.aload_n 2, 1) := by decide +kernel
theorem dX6_minuteAfter_59 : decode cX6_minuteAfter 59 = .ok (.getfield 64, 3) := by decide +kernel
theorem dX6_minuteAfter_62 : decode cX6_minuteAfter 62 = .ok (.invokestatic 69, 3) := by decide +kernel
theorem dX6_minuteAfter_65 : decode cX6_minuteAfter 65 = .ok (.iadd, 1) := by decide +kernel
theorem dX6_minuteAfter_66 : decode cX6_minuteAfter 66 = .ok (.invokestatic 76, 3) := by decide +kernel
theorem dX6_minuteAfter_69 : decode cX6_minuteAfter 69 = .ok (.istore 4, 2) := by decide +kernel
theorem dX6_minuteAfter_71 : decode cX6_minuteAfter 71 = .ok (.iinc 5 1, 3) := by decide +kernel
theorem dX6_minuteAfter_74 : decode cX6_minuteAfter 74 = .ok (.goto (-67), 3) := by decide +kernel
theorem dX6_minuteAfter_77 : decode cX6_minuteAfter 77 = .ok (.iload 4, 2) := by decide +kernel
theorem dX6_minuteAfter_79 : decode cX6_minuteAfter 79 = .ok (.ireturn, 1) := by decide +kernel
theorem dX6_shareWith_0 : decode cX6_shareWith 0 = .ok (.bipush 127, 2) := by decide +kernel
theorem dX6_shareWith_2 : decode cX6_shareWith 2 = .ok (.istore_n 2, 1) := by decide +kernel
theorem dX6_shareWith_3 : decode cX6_shareWith 3 = .ok (.iload_n 2, 1) := by decide +kernel
theorem dX6_shareWith_4 : decode cX6_shareWith 4 = .ok (.ifCond .le 64, 3) := by decide +kernel
theorem dX6_shareWith_7 : decode cX6_shareWith 7 = .ok (.iload_n 2, 1) := by decide +kernel
theorem dX6_shareWith_8 : decode cX6_shareWith 8 = .ok (.iload_n 1, 1) := by decide +kernel
theorem dX6_shareWith_9 : decode cX6_shareWith 9 = .ok (.iconst (-1), 1) := by decide +kernel
theorem dX6_shareWith_10 : decode cX6_shareWith 10 = .ok (.ixor, 1) := by decide +kernel
theorem dX6_shareWith_11 : decode cX6_shareWith 11 = .ok (.iand, 1) := by decide +kernel
theorem dX6_shareWith_12 : decode cX6_shareWith 12 = .ok (.ifCond .ne 50, 3) := by decide +kernel
theorem dX6_shareWith_15 : decode cX6_shareWith 15 = .ok (.iload_n 2, 1) := by decide +kernel
theorem dX6_shareWith_16 : decode cX6_shareWith 16 = .ok (.istore_n 3, 1) := by decide +kernel
theorem dX6_shareWith_17 : decode cX6_shareWith 17 = .ok (.iload_n 3, 1) := by decide +kernel
theorem dX6_shareWith_18 : decode cX6_shareWith 18 = .ok (.ifCond .le 44, 3) := by decide +kernel
theorem dX6_shareWith_21 : decode cX6_shareWith 21 = .ok (.aload_n 0, 1) := by decide +kernel
theorem dX6_shareWith_22 : decode cX6_shareWith 22 = .ok (.getfield 27, 3) := by decide +kernel
theorem dX6_shareWith_25 : decode cX6_shareWith 25 = .ok (.iload_n 2, 1) := by decide +kernel
theorem dX6_shareWith_26 : decode cX6_shareWith 26 = .ok (.aload_n 0, 1) := by decide +kernel
theorem dX6_shareWith_27 : decode cX6_shareWith 27 = .ok (.getfield 27, 3) := by decide +kernel
theorem dX6_shareWith_30 : decode cX6_shareWith 30 = .ok (.iload_n 2, 1) := by decide +kernel
theorem dX6_shareWith_31 : decode cX6_shareWith 31 = .ok (.iaload, 1) := by decide +kernel
theorem dX6_shareWith_32 : decode cX6_shareWith 32 = .ok (.aload_n 0, 1) := by decide +kernel
theorem dX6_shareWith_33 : decode cX6_shareWith 33 = .ok (.getfield 27, 3) := by decide +kernel
theorem dX6_shareWith_36 : decode cX6_shareWith 36 = .ok (.iload_n 2, 1) := by decide +kernel
theorem dX6_shareWith_37 : decode cX6_shareWith 37 = .ok (.iload_n 3, 1) := by decide +kernel
theorem dX6_shareWith_38 : decode cX6_shareWith 38 = .ok (.ixor, 1) := by decide +kernel
theorem dX6_shareWith_39 : decode cX6_shareWith 39 = .ok (.iaload, 1) := by decide +kernel
theorem dX6_shareWith_40 : decode cX6_shareWith 40 = .ok (.aload_n 0, 1) := by decide +kernel
theorem dX6_shareWith_41 : decode cX6_shareWith 41 = .ok (.getfield 24, 3) := by decide +kernel
theorem dX6_shareWith_44 : decode cX6_shareWith 44 = .ok (.iload_n 3, 1) := by decide +kernel
theorem dX6_shareWith_45 : decode cX6_shareWith 45 = .ok (.iaload, 1) := by decide +kernel
theorem dX6_shareWith_46 : decode cX6_shareWith 46 = .ok (.invokestatic 45, 3) := by decide +kernel
theorem dX6_shareWith_49 : decode cX6_shareWith 49 = .ok (.invokestatic 76, 3) := by decide +kernel
theorem dX6_shareWith_52 : decode cX6_shareWith 52 = .ok (.iastore, 1) := by decide +kernel
theorem dX6_shareWith_53 : decode cX6_shareWith 53 = .ok (.iload_n 3, 1) := by decide +kernel
theorem dX6_shareWith_54 : decode cX6_shareWith 54 = .ok (.iconst 1, 1) := by decide +kernel
theorem dX6_shareWith_55 : decode cX6_shareWith 55 = .ok (.isub, 1) := by decide +kernel
theorem dX6_shareWith_56 : decode cX6_shareWith 56 = .ok (.iload_n 2, 1) := by decide +kernel
theorem dX6_shareWith_57 : decode cX6_shareWith 57 = .ok (.iand, 1) := by decide +kernel
theorem dX6_shareWith_58 : decode cX6_shareWith 58 = .ok (.istore_n 3, 1) := by decide +kernel
theorem dX6_shareWith_59 : decode cX6_shareWith 59 = .ok (.goto (-42), 3) := by decide +kernel
theorem dX6_shareWith_62 : decode cX6_shareWith 62 = .ok (.iinc 2 (-1), 3) := by decide +kernel
theorem dX6_shareWith_65 : decode cX6_shareWith 65 = .ok (.goto (-62), 3) := by decide +kernel
theorem dX6_shareWith_68 : decode cX6_shareWith 68 = .ok (.return_, 1) := by decide +kernel
set_option maxRecDepth 20000 in
theorem ggX6_fewestFor_J6_bitCount_0f7a4 : GoodIn wsX6_fewestFor wsJ6_bitCount_0f7a4 := goodIn_r _ [10, 11, 12, 13] rfl (by decide +kernel)
set_option maxRecDepth 20000 in
theorem gX6_fewestFor_J6_bitCount_0f7a4 : GoodIn wsX6_fewestFor (va_wsS RX6 79 yJ6_bitCount_0f7a4 wsJ6_bitCount_0f7a4) := goodIn_app (goodIn_of _ (by decide +kernel)) ggX6_fewestFor_J6_bitCount_0f7a4
theorem dX6_fewestFor_0 : decode cX6_fewestFor 0 = .ok (.ldc 50, 2) := by decide +kernel
theorem dX6_fewestFor_2 : decode cX6_fewestFor 2 = .ok (.istore_n 2, 1) := by decide +kernel
theorem dX6_fewestFor_3 : decode cX6_fewestFor 3 = .ok (.iconst 1, 1) := by decide +kernel
theorem dX6_fewestFor_4 : decode cX6_fewestFor 4 = .ok (.istore_n 3, 1) := by decide +kernel
theorem dX6_fewestFor_5 : decode cX6_fewestFor 5 = .ok (.iload_n 3, 1) := by decide +kernel
theorem dX6_fewestFor_6 : decode cX6_fewestFor 6 = .ok (.sipush 128, 3) := by decide +kernel
theorem dX6_fewestFor_9 : decode cX6_fewestFor 9 = .ok (.if_icmp .ge 28, 3) := by decide +kernel
theorem dX6_fewestFor_12 : decode cX6_fewestFor 12 = .ok (.iload_n 3, 1) := by decide +kernel
theorem dX6_fewestFor_13 : decode cX6_fewestFor 13 = .ok (.invokestatic 79, 3) := by decide +kernel
theorem dX6_fewestFor_16 : decode cX6_fewestFor 16 = .ok (.iload_n 1, 1) := by decide +kernel
theorem dX6_fewestFor_17 : decode cX6_fewestFor 17 = .ok (.if_icmp .ne 14, 3) := by decide +kernel
theorem dX6_fewestFor_20 : decode cX6_fewestFor 20 = .ok (.iload_n 2, 1) := by decide +kernel
theorem dX6_fewestFor_21 : decode cX6_fewestFor 21 = .ok (.aload_n 0, 1) := by decide +kernel
theorem dX6_fewestFor_22 : decode cX6_fewestFor 22 = .ok (.getfield 27, 3) := by decide +kernel
theorem dX6_fewestFor_25 : decode cX6_fewestFor 25 = .ok (.iload_n 3, 1) := by decide +kernel
theorem dX6_fewestFor_26 : decode cX6_fewestFor 26 = .ok (.iaload, 1) := by decide +kernel
theorem dX6_fewestFor_27 : decode cX6_fewestFor 27 = .ok (.invokestatic 76, 3) := by decide +kernel
theorem dX6_fewestFor_30 : decode cX6_fewestFor 30 = .ok (.istore_n 2, 1) := by decide +kernel
theorem dX6_fewestFor_31 : decode cX6_fewestFor 31 = .ok (.iinc 3 1, 3) := by decide +kernel
theorem dX6_fewestFor_34 : decode cX6_fewestFor 34 = .ok (.goto (-29), 3) := by decide +kernel
theorem dX6_fewestFor_37 : decode cX6_fewestFor 37 = .ok (.iload_n 2, 1) := by decide +kernel
theorem dX6_fewestFor_38 : decode cX6_fewestFor 38 = .ok (.ldc 50, 2) := by decide +kernel
theorem dX6_fewestFor_40 : decode cX6_fewestFor 40 = .ok (.if_icmp .ge 7, 3) := by decide +kernel
theorem dX6_fewestFor_43 : decode cX6_fewestFor 43 = .ok (.iload_n 2, 1) := by decide +kernel
theorem dX6_fewestFor_44 : decode cX6_fewestFor 44 = .ok (.goto 4, 3) := by decide +kernel
theorem dX6_fewestFor_47 : decode cX6_fewestFor 47 = .ok (.iconst (-1), 1) := by decide +kernel
theorem dX6_fewestFor_48 : decode cX6_fewestFor 48 = .ok (.ireturn, 1) := by decide +kernel
theorem dX7_init_0 : decode cX7_init 0 = .ok (.aload_n 0, 1) := by decide +kernel
theorem dX7_init_1 : decode cX7_init 1 = .ok (.invokespecial 3, 3) := by decide +kernel
theorem dX7_init_4 : decode cX7_init 4 = .ok (.aload_n 0, 1) := by decide +kernel
theorem dX7_init_5 : decode cX7_init 5 = .ok (.bipush 24, 2) := by decide +kernel
theorem dX7_init_7 : decode cX7_init 7 = .ok (.newarray .long, 2) := by decide +kernel
theorem dX7_init_9 : decode cX7_init 9 = .ok (.putfield 9, 3) := by decide +kernel
theorem dX7_init_12 : decode cX7_init 12 = .ok (.aload_n 0, 1) := by decide +kernel
theorem dX7_init_13 : decode cX7_init 13 = .ok (.iconst (-1), 1) := by decide +kernel
theorem dX7_init_14 : decode cX7_init 14 = .ok (.putfield 15, 3) := by decide +kernel
theorem dX7_init_17 : decode cX7_init 17 = .ok (.return_, 1) := by decide +kernel
theorem dX7_isMissing_0 : decode cX7_isMissing 0 = .ok (.aload_n 0, 1) := by decide +kernel
theorem dX7_isMissing_1 : decode cX7_isMissing 1 = .ok (.getfield 15, 3) := by decide +kernel
theorem dX7_isMissing_4 : decode cX7_isMissing 4 = .ok (.iconst (-1), 1) := by decide +kernel
theorem dX7_isMissing_5 : decode cX7_isMissing 5 = .ok (.if_icmp .ne 7, 3) := by decide +kernel
theorem dX7_isMissing_8 : decode cX7_isMissing 8 = .ok (.iconst 1, 1) := by decide +kernel
theorem dX7_isMissing_9 : decode cX7_isMissing 9 = .ok (.goto 4, 3) := by decide +kernel
theorem dX7_isMissing_12 : decode cX7_isMissing 12 = .ok (.iconst 0, 1) := by decide +kernel
theorem dX7_isMissing_13 : decode cX7_isMissing 13 = .ok (.ireturn, 1) := by decide +kernel
theorem dX7_begin_0 : decode cX7_begin 0 = .ok (.aload_n 0, 1) := by decide +kernel
theorem dX7_begin_1 : decode cX7_begin 1 = .ok (.iload_n 1, 1) := by decide +kernel
theorem dX7_begin_2 : decode cX7_begin 2 = .ok (.putfield 15, 3) := by decide +kernel
theorem dX7_begin_5 : decode cX7_begin 5 = .ok (.aload_n 0, 1) := by decide +kernel
theorem dX7_begin_6 : decode cX7_begin 6 = .ok (.iload_n 2, 1) := by decide +kernel
theorem dX7_begin_7 : decode cX7_begin 7 = .ok (.putfield 19, 3) := by decide +kernel
theorem dX7_begin_10 : decode cX7_begin 10 = .ok (.iconst 0, 1) := by decide +kernel
theorem dX7_begin_11 : decode cX7_begin 11 = .ok (.istore_n 3, 1) := by decide +kernel
theorem dX7_begin_12 : decode cX7_begin 12 = .ok (.iload_n 3, 1) := by decide +kernel
theorem dX7_begin_13 : decode cX7_begin 13 = .ok (.bipush 24, 2) := by decide +kernel
theorem dX7_begin_15 : decode cX7_begin 15 = .ok (.if_icmp .ge 16, 3) := by decide +kernel
theorem dX7_begin_18 : decode cX7_begin 18 = .ok (.aload_n 0, 1) := by decide +kernel
theorem dX7_begin_19 : decode cX7_begin 19 = .ok (.getfield 9, 3) := by decide +kernel
theorem dX7_begin_22 : decode cX7_begin 22 = .ok (.iload_n 3, 1) := by decide +kernel
theorem dX7_begin_23 : decode cX7_begin 23 = .ok (.lconst 0, 1) := by decide +kernel
theorem dX7_begin_24 : decode cX7_begin 24 = .ok (.lastore, 1) := by decide +kernel
theorem dX7_begin_25 : decode cX7_begin 25 = .ok (.iinc 3 1, 3) := by decide +kernel
theorem dX7_begin_28 : decode cX7_begin 28 = .ok (.goto (-16), 3) := by decide +kernel
theorem dX7_begin_31 : decode cX7_begin 31 = .ok (.return_, 1) := by decide +kernel
theorem dX7_spans_0 : decode cX7_spans 0 = .ok (.iload_n 1, 1) := by decide +kernel
theorem dX7_spans_1 : decode cX7_spans 1 = .ok (.ifCond .lt 29, 3) := by decide +kernel
theorem dX7_spans_4 : decode cX7_spans 4 = .ok (.iload_n 2, 1) := by decide +kernel
theorem dX7_spans_5 : decode cX7_spans 5 = .ok (.ifCond .lt 25, 3) := by decide +kernel
theorem dX7_spans_8 : decode cX7_spans 8 = .ok (.iload_n 1, 1) := by decide +kernel
theorem dX7_spans_9 : decode cX7_spans 9 = .ok (.aload_n 0, 1) := by decide +kernel
theorem dX7_spans_10 : decode cX7_spans 10 = .ok (.getfield 19, 3) := by decide +kernel
theorem dX7_spans_13 : decode cX7_spans 13 = .ok (.if_icmp .gt 17, 3) := by decide +kernel
theorem dX7_spans_16 : decode cX7_spans 16 = .ok (.iload_n 2, 1) := by decide +kernel
theorem dX7_spans_17 : decode cX7_spans 17 = .ok (.aload_n 0, 1) := by decide +kernel
theorem dX7_spans_18 : decode cX7_spans 18 = .ok (.getfield 19, 3) := by decide +kernel
theorem dX7_spans_21 : decode cX7_spans 21 = .ok (.iload_n 1, 1) := by decide +kernel
theorem dX7_spans_22 : decode cX7_spans 22 = .ok (.isub, 1) := by decide +kernel
theorem dX7_spans_23 : decode cX7_spans 23 = .ok (.if_icmp .gt 7, 3) := by decide +kernel
theorem dX7_spans_26 : decode cX7_spans 26 = .ok (.iconst 1, 1) := by decide +kernel
theorem dX7_spans_27 : decode cX7_spans 27 = .ok (.goto 4, 3) := by decide +kernel
theorem dX7_spans_30 : decode cX7_spans 30 = .ok (.iconst 0, 1) := by decide +kernel
theorem dX7_spans_31 : decode cX7_spans 31 = .ok (.ireturn, 1) := by decide +kernel
theorem dX7_thingAt_0 : decode cX7_thingAt 0 = .ok (.iload_n 1, 1) := by decide +kernel
theorem dX7_thingAt_1 : decode cX7_thingAt 1 = .ok (.ifCond .lt 26, 3) := by decide +kernel
theorem dX7_thingAt_4 : decode cX7_thingAt 4 = .ok (.iload_n 1, 1) := by decide +kernel
theorem dX7_thingAt_5 : decode cX7_thingAt 5 = .ok (.aload_n 0, 1) := by decide +kernel
theorem dX7_thingAt_6 : decode cX7_thingAt 6 = .ok (.getfield 19, 3) := by decide +kernel
theorem dX7_thingAt_9 : decode cX7_thingAt 9 = .ok (.if_icmp .ge 18, 3) := by decide +kernel
theorem dX7_thingAt_12 : decode cX7_thingAt 12 = .ok (.iload_n 1, 1) := by decide +kernel
theorem dX7_thingAt_13 : decode cX7_thingAt 13 = .ok (.bipush 24, 2) := by decide +kernel
theorem dX7_thingAt_15 : decode cX7_thingAt 15 = .ok (.if_icmp .ge 12, 3) := by decide +kernel
theorem dX7_thingAt_18 : decode cX7_thingAt 18 = .ok (.aload_n 0, 1) := by decide +kernel
theorem dX7_thingAt_19 : decode cX7_thingAt 19 = .ok (.getfield 9, 3) := by decide +kernel
theorem dX7_thingAt_22 : decode cX7_thingAt 22 = .ok (.iload_n 1, 1) := by decide +kernel
theorem dX7_thingAt_23 : decode cX7_thingAt 23 = .ok (.laload, 1) := by decide +kernel
theorem dX7_thingAt_24 : decode cX7_thingAt 24 = .ok (.goto 4, 3) := by decide +kernel
theorem dX7_thingAt_27 : decode cX7_thingAt 27 = .ok (.lconst 0, 1) := by decide +kernel
theorem dX7_thingAt_28 : decode cX7_thingAt 28 = .ok (.lreturn, 1) := by decide +kernel
set_option maxRecDepth 20000 in
theorem ggX7_put_X7_cutDown : GoodIn wsX7_put wsX7_cutDown := goodIn_r _ [7, 8, 9, 10, 11] rfl (by decide +kernel)
set_option maxRecDepth 20000 in
theorem gX7_put_X7_cutDown : GoodIn wsX7_put (wsV RX7 22 RX7 yX7_cutDown wsX7_cutDown) := goodIn_app (goodIn_of _ (by decide +kernel)) ggX7_put_X7_cutDown
theorem dX7_put_0 : decode cX7_put 0 = .ok (.iload_n 1, 1) := by decide +kernel
theorem dX7_put_1 : decode cX7_put 1 = .ok (.ifCond .lt 28, 3) := by decide +kernel
theorem dX7_put_4 : decode cX7_put 4 = .ok (.iload_n 1, 1) := by decide +kernel
theorem dX7_put_5 : decode cX7_put 5 = .ok (.aload_n 0, 1) := by decide +kernel
theorem dX7_put_6 : decode cX7_put 6 = .ok (.getfield 19, 3) := by decide +kernel
theorem dX7_put_9 : decode cX7_put 9 = .ok (.if_icmp .ge 20, 3) := by decide +kernel
theorem dX7_put_12 : decode cX7_put 12 = .ok (.iload_n 1, 1) := by decide +kernel
theorem dX7_put_13 : decode cX7_put 13 = .ok (.bipush 24, 2) := by decide +kernel
theorem dX7_put_15 : decode cX7_put 15 = .ok (.if_icmp .ge 14, 3) := by decide +kernel
theorem dX7_put_18 : decode cX7_put 18 = .ok (.aload_n 0, 1) := by decide +kernel
theorem dX7_put_19 : decode cX7_put 19 = .ok (.getfield 9, 3) := by decide +kernel
theorem dX7_put_22 : decode cX7_put 22 = .ok (.iload_n 1, 1) := by decide +kernel
theorem dX7_put_23 : decode cX7_put 23 = .ok (.aload_n 0, 1) := by decide +kernel
theorem dX7_put_24 : decode cX7_put 24 = .ok (.lload_n 2, 1) := by decide +kernel
theorem dX7_put_25 : decode cX7_put 25 = .ok (.invokevirtual 22, 3) := by decide +kernel
theorem dX7_put_28 : decode cX7_put 28 = .ok (.lastore, 1) := by decide +kernel
theorem dX7_put_29 : decode cX7_put 29 = .ok (.return_, 1) := by decide +kernel
theorem dX7_cutDown_0 : decode cX7_cutDown 0 = .ok (.aload_n 0, 1) := by decide +kernel
theorem dX7_cutDown_1 : decode cX7_cutDown 1 = .ok (.getfield 15, 3) := by decide +kernel
theorem dX7_cutDown_4 : decode cX7_cutDown 4 = .ok (.tableswitch 56 0 4 #[36, 41, 46, 50, 52], 36) := by decide +kernel
theorem dX7_cutDown_40 : decode cX7_cutDown 40 = .ok (.lload_n 1, 1) := by decide +kernel
theorem dX7_cutDown_41 : decode cX7_cutDown 41 = .ok (.l2i, 1) := by decide +kernel
theorem dX7_cutDown_42 : decode cX7_cutDown 42 = .ok (.i2b, 1) := by decide +kernel
theorem dX7_cutDown_43 : decode cX7_cutDown 43 = .ok (.i2l, 1) := by decide +kernel
theorem dX7_cutDown_44 : decode cX7_cutDown 44 = .ok (.lreturn, 1) := by decide +kernel
theorem dX7_cutDown_45 : decode cX7_cutDown 45 = .ok (.lload_n 1, 1) := by decide +kernel
theorem dX7_cutDown_46 : decode cX7_cutDown 46 = .ok (.l2i, 1) := by decide +kernel
theorem dX7_cutDown_47 : decode cX7_cutDown 47 = .ok (.i2s, 1) := by decide +kernel
theorem dX7_cutDown_48 : decode cX7_cutDown 48 = .ok (.i2l, 1) := by decide +kernel
theorem dX7_cutDown_49 : decode cX7_cutDown 49 = .ok (.lreturn, 1) := by decide +kernel
theorem dX7_cutDown_50 : decode cX7_cutDown 50 = .ok (.lload_n 1, 1) := by decide +kernel
theorem dX7_cutDown_51 : decode cX7_cutDown 51 = .ok (.l2i, 1) := by decide +kernel
theorem dX7_cutDown_52 : decode cX7_cutDown 52 = .ok (.i2l, 1) := by decide +kernel
theorem dX7_cutDown_53 : decode cX7_cutDown 53 = .ok (.lreturn, 1) := by decide +kernel
theorem dX7_cutDown_54 : decode cX7_cutDown 54 = .ok (.lload_n 1, 1) := by decide +kernel
theorem dX7_cutDown_55 : decode cX7_cutDown 55 = .ok (.lreturn, 1) := by decide +kernel
theorem dX7_cutDown_56 : decode cX7_cutDown 56 = .ok (.lload_n 1, 1) := by decide +kernel
theorem dX7_cutDown_57 : decode cX7_cutDown 57 = .ok (.lconst 1, 1) := by decide +kernel
theorem dX7_cutDown_58 : decode cX7_cutDown 58 = .ok (.land, 1) := by decide +kernel
theorem dX7_cutDown_59 : decode cX7_cutDown 59 = .ok (.lreturn, 1) := by decide +kernel
theorem dX7_cutDown_60 : decode cX7_cutDown 60 = .ok (.lconst 0, 1) := by decide +kernel
theorem dX7_cutDown_61 : decode cX7_cutDown 61 = .ok (.lreturn, 1) := by decide +kernel
theorem dX7_together_0 : decode cX7_together 0 = .ok (.lconst 0, 1) := by decide +kernel
theorem dX7_together_1 : decode cX7_together 1 = .ok (.lstore_n 1, 1) := by decide +kernel
theorem dX7_together_2 : decode cX7_together 2 = .ok (.iconst 0, 1) := by decide +kernel
theorem dX7_together_3 : decode cX7_together 3 = .ok (.istore_n 3, 1) := by decide +kernel
theorem dX7_together_4 : decode cX7_together 4 = .ok (.iload_n 3, 1) := by decide +kernel
theorem dX7_together_5 : decode cX7_together 5 = .ok (.aload_n 0, 1) := by decide +kernel
theorem dX7_together_6 : decode cX7_together 6 = .ok (.getfield 19, 3) := by decide +kernel
theorem dX7_together_9 : decode cX7_together 9 = .ok (.if_icmp .ge 24, 3) := by decide +kernel
theorem dX7_together_12 : decode cX7_together 12 = .ok (.iload_n 3, 1) := by decide +kernel
theorem dX7_together_13 : decode cX7_together 13 = .ok (.bipush 24, 2) := by decide +kernel
theorem dX7_together_15 : decode cX7_together 15 = .ok (.if_icmp .ge 18, 3) := by decide +kernel
theorem dX7_together_18 : decode cX7_together 18 = .ok (.lload_n 1, 1) := by decide +kernel
theorem dX7_together_19 : decode cX7_together 19 = .ok (.aload_n 0, 1) := by decide +kernel
theorem dX7_together_20 : decode cX7_together 20 = .ok (.getfield 9, 3) := by decide +kernel
theorem dX7_together_23 : decode cX7_together 23 = .ok (.iload_n 3, 1) := by decide +kernel
theorem dX7_together_24 : decode cX7_together 24 = .ok (.laload, 1) := by decide +kernel
theorem dX7_together_25 : decode cX7_together 25 = .ok (.ladd, 1) := by decide +kernel
theorem dX7_together_26 : decode cX7_together 26 = .ok (.lstore_n 1, 1) := by decide +kernel
theorem dX7_together_27 : decode cX7_together 27 = .ok (.iinc 3 1, 3) := by decide +kernel
theorem dX7_together_30 : decode cX7_together 30 = .ok (.goto (-26), 3) := by decide +kernel
theorem dX7_together_33 : decode cX7_together 33 = .ok (.lload_n 1, 1) := by decide +kernel
theorem dX7_together_34 : decode cX7_together 34 = .ok (.lreturn, 1) := by decide +kernel
set_option maxRecDepth 20000 in
theorem ggX8_init_X0_init : GoodIn wsX8_init wsX0_init := goodIn_r _ [4, 5, 6, 7, 8, 9, 10, 11, 12, 13, 14, 15, 16, 17, 18, 19, 20, 21] rfl (by decide +kernel)
set_option maxRecDepth 20000 in
theorem gX8_init_X0_init : GoodIn wsX8_init (wsX0_init) := ggX8_init_X0_init
theorem dX8_init_0 : decode cX8_init 0 = .ok (.aload_n 0, 1) := by decide +kernel
theorem dX8_init_1 : decode cX8_init 1 = .ok (.iload_n 1, 1) := by decide +kernel
theorem dX8_init_2 : decode cX8_init 2 = .ok (.iload_n 2, 1) := by decide +kernel
theorem dX8_init_3 : decode cX8_init 3 = .ok (.invokespecial 3, 3) := by decide +kernel
theorem dX8_init_6 : decode cX8_init 6 = .ok (.return_, 1) := by decide +kernel
theorem dX8_kindNumber_0 : decode cX8_kindNumber 0 = .ok (.iconst 1, 1) := by decide +kernel
theorem dX8_kindNumber_1 : decode cX8_kindNumber 1 = .ok (.ireturn, 1) := by decide +kernel
set_option maxRecDepth 20000 in
theorem ggX8_edge_X0_edge : GoodIn wsX8_edge wsX0_edge := goodIn_r _ [8, 9, 10, 11, 12, 13, 14, 15, 16, 17, 18, 19, 20, 21, 22, 23, 24, 25] rfl (by decide +kernel)
set_option maxRecDepth 20000 in
theorem gX8_edge_X0_edge_s9 : GoodIn wsX8_edge (va_wsSU RX8 9 yX0_edge wsX0_edge) := goodIn_app (goodIn_of _ (by decide +kernel)) ggX8_edge_X0_edge
theorem dX8_edge_0 : decode cX8_edge 0 = .ok (.aload_n 0, 1) := by decide +kernel
theorem dX8_edge_1 : decode cX8_edge 1 = .ok (.iload_n 1, 1) := by decide +kernel
theorem dX8_edge_2 : decode cX8_edge 2 = .ok (.invokespecial 9, 3) := by decide +kernel
theorem dX8_edge_5 : decode cX8_edge 5 = .ok (.istore_n 2, 1) := by decide +kernel
theorem dX8_edge_6 : decode cX8_edge 6 = .ok (.aload_n 0, 1) := by decide +kernel
theorem dX8_edge_7 : decode cX8_edge 7 = .ok (.getfield 13, 3) := by decide +kernel
theorem dX8_edge_10 : decode cX8_edge 10 = .ok (.istore_n 3, 1) := by decide +kernel
theorem dX8_edge_11 : decode cX8_edge 11 = .ok (.bipush 8, 2) := by decide +kernel
theorem dX8_edge_13 : decode cX8_edge 13 = .ok (.istore 4, 2) := by decide +kernel
theorem dX8_edge_15 : decode cX8_edge 15 = .ok (.iload 4, 2) := by decide +kernel
theorem dX8_edge_17 : decode cX8_edge 17 = .ok (.ifCond .lt 35, 3) := by decide +kernel
theorem dX8_edge_20 : decode cX8_edge 20 = .ok (.iload_n 3, 1) := by decide +kernel
theorem dX8_edge_21 : decode cX8_edge 21 = .ok (.ifCond .le 25, 3) := by decide +kernel
theorem dX8_edge_24 : decode cX8_edge 24 = .ok (.iload_n 2, 1) := by decide +kernel
theorem dX8_edge_25 : decode cX8_edge 25 = .ok (.iload 4, 2) := by decide +kernel
theorem dX8_edge_27 : decode cX8_edge 27 = .ok (.ishr, 1) := by decide +kernel
theorem dX8_edge_28 : decode cX8_edge 28 = .ok (.iconst 1, 1) := by decide +kernel
theorem dX8_edge_29 : decode cX8_edge 29 = .ok (.iand, 1) := by decide +kernel
theorem dX8_edge_30 : decode cX8_edge 30 = .ok (.iconst 1, 1) := by decide +kernel
theorem dX8_edge_31 : decode cX8_edge 31 = .ok (.if_icmp .ne 15, 3) := by decide +kernel
theorem dX8_edge_34 : decode cX8_edge 34 = .ok (.iload_n 2, 1) := by decide +kernel
theorem dX8_edge_35 : decode cX8_edge 35 = .ok (.iconst 1, 1) := by decide +kernel
theorem dX8_edge_36 : decode cX8_edge 36 = .ok (.iload 4, 2) := by decide +kernel
theorem dX8_edge_38 : decode cX8_edge 38 = .ok (.ishl, 1) := by decide +kernel
theorem dX8_edge_39 : decode cX8_edge 39 = .ok (.iconst (-1), 1) := by decide +kernel
theorem dX8_edge_40 : decode cX8_edge 40 = .ok (.ixor, 1) := by decide +kernel
theorem dX8_edge_41 : decode cX8_edge 41 = .ok (.iand, 1) := by decide +kernel
theorem dX8_edge_42 : decode cX8_edge 42 = .ok (.istore_n 2, 1) := by decide +kernel
theorem dX8_edge_43 : decode cX8_edge 43 = .ok (.iinc 3 (-1), 3) := by decide +kernel
theorem dX8_edge_46 : decode cX8_edge 46 = .ok (.iinc 4 (-1), 3) := by decide +kernel
theorem dX8_edge_49 : decode cX8_edge 49 = .ok (.goto (-34), 3) := by decide +kernel
theorem dX8_edge_52 : decode cX8_edge 52 = .ok (.iload_n 2, 1) := by decide +kernel
theorem dX8_edge_53 : decode cX8_edge 53 = .ok (.ireturn, 1) := by decide +kernel
set_option maxRecDepth 20000 in
theorem ggX8_room_X0_room : GoodIn wsX8_room wsX0_room := goodIn_r _ [6] rfl (by decide +kernel)
set_option maxRecDepth 20000 in
theorem gX8_room_X0_room_s19 : GoodIn wsX8_room (va_wsSU RX8 19 yX0_room wsX0_room) := goodIn_app (goodIn_of _ (by decide +kernel)) ggX8_room_X0_room
theorem dX8_room_0 : decode cX8_room 0 = .ok (.aload_n 0, 1) := by decide +kernel
theorem dX8_room_1 : decode cX8_room 1 = .ok (.iload_n 1, 1) := by decide +kernel
theorem dX8_room_2 : decode cX8_room 2 = .ok (.invokespecial 19, 3) := by decide +kernel
theorem dX8_room_5 : decode cX8_room 5 = .ok (.iconst 1, 1) := by decide +kernel
theorem dX8_room_6 : decode cX8_room 6 = .ok (.iadd, 1) := by decide +kernel
theorem dX8_room_7 : decode cX8_room 7 = .ok (.ireturn, 1) := by decide +kernel
theorem dX9_init_0 : decode cX9_init 0 = .ok (.aload_n 0, 1) := by decide +kernel
theorem dX9_init_1 : decode cX9_init 1 = .ok (.invokespecial 3, 3) := by decide +kernel
theorem dX9_init_4 : decode cX9_init 4 = .ok (.aload_n 0, 1) := by decide +kernel
theorem dX9_init_5 : decode cX9_init 5 = .ok (.bipush 7, 2) := by decide +kernel
theorem dX9_init_7 : decode cX9_init 7 = .ok (.newarray .int, 2) := by decide +kernel
theorem dX9_init_9 : decode cX9_init 9 = .ok (.putfield 9, 3) := by decide +kernel
theorem dX9_init_12 : decode cX9_init 12 = .ok (.aload_n 0, 1) := by decide +kernel
theorem dX9_init_13 : decode cX9_init 13 = .ok (.bipush 7, 2) := by decide +kernel
theorem dX9_init_15 : decode cX9_init 15 = .ok (.newarray .int, 2) := by decide +kernel
theorem dX9_init_17 : decode cX9_init 17 = .ok (.putfield 15, 3) := by decide +kernel
theorem dX9_init_20 : decode cX9_init 20 = .ok (.aload_n 0, 1) := by decide +kernel
theorem dX9_init_21 : decode cX9_init 21 = .ok (.iconst 3, 1) := by decide +kernel
theorem dX9_init_22 : decode cX9_init 22 = .ok (.newarray .int, 2) := by decide +kernel
theorem dX9_init_24 : decode cX9_init 24 = .ok (.putfield 18, 3) := by decide +kernel
theorem dX9_init_27 : decode cX9_init 27 = .ok (.aload_n 0, 1) := by decide +kernel
theorem dX9_init_28 : decode cX9_init 28 = .ok (.iconst 3, 1) := by decide +kernel
theorem dX9_init_29 : decode cX9_init 29 = .ok (.newarray .int, 2) := by decide +kernel
theorem dX9_init_31 : decode cX9_init 31 = .ok (.putfield 21, 3) := by decide +kernel
theorem dX9_init_34 : decode cX9_init 34 = .ok (.return_, 1) := by decide +kernel
theorem dX9_begin_0 : decode cX9_begin 0 = .ok (.aload_n 0, 1) := by decide +kernel
theorem dX9_begin_1 : decode cX9_begin 1 = .ok (.iconst 0, 1) := by decide +kernel
theorem dX9_begin_2 : decode cX9_begin 2 = .ok (.putfield 24, 3) := by decide +kernel
theorem dX9_begin_5 : decode cX9_begin 5 = .ok (.aload_n 0, 1) := by decide +kernel
theorem dX9_begin_6 : decode cX9_begin 6 = .ok (.iconst 0, 1) := by decide +kernel
theorem dX9_begin_7 : decode cX9_begin 7 = .ok (.putfield 28, 3) := by decide +kernel
theorem dX9_begin_10 : decode cX9_begin 10 = .ok (.aload_n 0, 1) := by decide +kernel
theorem dX9_begin_11 : decode cX9_begin 11 = .ok (.iconst 0, 1) := by decide +kernel
theorem dX9_begin_12 : decode cX9_begin 12 = .ok (.putfield 31, 3) := by decide +kernel
theorem dX9_begin_15 : decode cX9_begin 15 = .ok (.iconst 0, 1) := by decide +kernel
theorem dX9_begin_16 : decode cX9_begin 16 = .ok (.istore_n 2, 1) := by decide +kernel
theorem dX9_begin_17 : decode cX9_begin 17 = .ok (.iload_n 2, 1) := by decide +kernel
theorem dX9_begin_18 : decode cX9_begin 18 = .ok (.bipush 7, 2) := by decide +kernel
theorem dX9_begin_20 : decode cX9_begin 20 = .ok (.if_icmp .ge 23, 3) := by decide +kernel
theorem dX9_begin_23 : decode cX9_begin 23 = .ok (.aload_n 0, 1) := by decide +kernel
theorem dX9_begin_24 : decode cX9_begin 24 = .ok (.getfield 9, 3) := by decide +kernel
theorem dX9_begin_27 : decode cX9_begin 27 = .ok (.iload_n 2, 1) := by decide +kernel
theorem dX9_begin_28 : decode cX9_begin 28 = .ok (.iconst 0, 1) := by decide +kernel
theorem dX9_begin_29 : decode cX9_begin 29 = .ok (.iastore, 1) := by decide +kernel
theorem dX9_begin_30 : decode cX9_begin 30 = .ok (.aload_n 0, 1) := by decide +kernel
theorem dX9_begin_31 : decode cX9_begin 31 = .ok (.getfield 15, 3) := by decide +kernel
theorem dX9_begin_34 : decode cX9_begin 34 = .ok (.iload_n 2, 1) := by decide +kernel
theorem dX9_begin_35 : decode cX9_begin 35 = .ok (.iconst 0, 1) := by decide +kernel
theorem dX9_begin_36 : decode cX9_begin 36 = .ok (.iastore, 1) := by decide +kernel
theorem dX9_begin_37 : decode cX9_begin 37 = .ok (.iinc 2 1, 3) := by decide +kernel
theorem dX9_begin_40 : decode cX9_begin 40 = .ok (.goto (-23), 3) := by decide +kernel
theorem dX9_begin_43 : decode cX9_begin 43 = .ok (.iconst 0, 1) := by decide +kernel
theorem dX9_begin_44 : decode cX9_begin 44 = .ok (.istore_n 2, 1) := by decide +kernel
theorem dX9_begin_45 : decode cX9_begin 45 = .ok (.iload_n 2, 1) := by decide +kernel
theorem dX9_begin_46 : decode cX9_begin 46 = .ok (.iconst 3, 1) := by decide +kernel
theorem dX9_begin_47 : decode cX9_begin 47 = .ok (.if_icmp .ge 28, 3) := by decide +kernel
theorem dX9_begin_50 : decode cX9_begin 50 = .ok (.aload_n 0, 1) := by decide +kernel
theorem dX9_begin_51 : decode cX9_begin 51 = .ok (.getfield 18, 3) := by decide +kernel
theorem dX9_begin_54 : decode cX9_begin 54 = .ok (.iload_n 2, 1) := by decide +kernel
theorem dX9_begin_55 : decode cX9_begin 55 = .ok (.aload_n 1, 1) := by decide +kernel
theorem dX9_begin_56 : decode cX9_begin 56 = .ok (.getfield 34, 3) := by decide +kernel
theorem dX9_begin_59 : decode cX9_begin 59 = .ok (.iload_n 2, 1) := by decide +kernel
theorem dX9_begin_60 : decode cX9_begin 60 = .ok (.iaload, 1) := by decide +kernel
theorem dX9_begin_61 : decode cX9_begin 61 = .ok (.iastore, 1) := by decide +kernel
theorem dX9_begin_62 : decode cX9_begin 62 = .ok (.aload_n 0, 1) := by decide +kernel
theorem dX9_begin_63 : decode cX9_begin 63 = .ok (.getfield 21, 3) := by decide +kernel
theorem dX9_begin_66 : decode cX9_begin 66 = .ok (.iload_n 2, 1) := by decide +kernel
theorem dX9_begin_67 : decode cX9_begin 67 = .ok (.iconst 0, 1) := by decide +kernel
theorem dX9_begin_68 : decode cX9_begin 68 = .ok (.iastore, 1) := by decide +kernel
theorem dX9_begin_69 : decode cX9_begin 69 = .ok (.iinc 2 1, 3) := by decide +kernel
theorem dX9_begin_72 : decode cX9_begin 72 = .ok (.goto (-27), 3) := by decide +kernel
theorem dX9_begin_75 : decode cX9_begin 75 = .ok (.return_, 1) := by decide +kernel
theorem dX9_takeFrom_0 : decode cX9_takeFrom 0 = .ok (.aload_n 0, 1) := by decide +kernel
theorem dX9_takeFrom_1 : decode cX9_takeFrom 1 = .ok (.aload_n 1, 1) := by decide +kernel
theorem dX9_takeFrom_2 : decode cX9_takeFrom 2 = .ok (.getfield 24, 3) := by decide +kernel
theorem dX9_takeFrom_5 : decode cX9_takeFrom 5 = .ok (.putfield 24, 3) := by decide +kernel
theorem dX9_takeFrom_8 : decode cX9_takeFrom 8 = .ok (.aload_n 0, 1) := by decide +kernel
theorem dX9_takeFrom_9 : decode cX9_takeFrom 9 = .ok (.aload_n 1, 1) := by decide +kernel
theorem dX9_takeFrom_10 : decode cX9_takeFrom 10 = .ok (.getfield 28, 3) := by decide +kernel
theorem dX9_takeFrom_13 : decode cX9_takeFrom 13 = .ok (.putfield 28, 3) := by decide +kernel
theorem dX9_takeFrom_16 : decode cX9_takeFrom 16 = .ok (.aload_n 0, 1) := by decide +kernel
theorem dX9_takeFrom_17 : decode cX9_takeFrom 17 = .ok (.aload_n 1, 1) := by decide +kernel
theorem dX9_takeFrom_18 : decode cX9_takeFrom 18 = .ok (.getfield 31, 3) := by decide +kernel
theorem dX9_takeFrom_21 : decode cX9_takeFrom 21 = .ok (.putfield 31, 3) := by decide +kernel
theorem dX9_takeFrom_24 : decode cX9_takeFrom 24 = .ok (.iconst 0, 1) := by decide +kernel
theorem dX9_takeFrom_25 : decode cX9_takeFrom 25 = .ok (.istore_n 2, 1) := by decide +kernel
theorem dX9_takeFrom_26 : decode cX9_takeFrom 26 = .ok (.iload_n 2, 1) := by decide +kernel
theorem dX9_takeFrom_27 : decode cX9_takeFrom 27 = .ok (.bipush 7, 2) := by decide +kernel
theorem dX9_takeFrom_29 : decode cX9_takeFrom 29 = .ok (.if_icmp .ge 33, 3) := by decide +kernel
theorem dX9_takeFrom_32 : decode cX9_takeFrom 32 = .ok (.aload_n 0, 1) := by decide +kernel
theorem dX9_takeFrom_33 : decode cX9_takeFrom 33 = .ok (.getfield 9, 3) := by decide +kernel
theorem dX9_takeFrom_36 : decode cX9_takeFrom 36 = .ok (.iload_n 2, 1) := by decide +kernel
theorem dX9_takeFrom_37 : decode cX9_takeFrom 37 = .ok (.aload_n 1, 1) := by decide +kernel
theorem dX9_takeFrom_38 : decode cX9_takeFrom 38 = .ok (.getfield 9, 3) := by decide +kernel
theorem dX9_takeFrom_41 : decode cX9_takeFrom 41 = .ok (.iload_n 2, 1) := by decide +kernel
theorem dX9_takeFrom_42 : decode cX9_takeFrom 42 = .ok (.iaload, 1) := by decide +kernel
theorem dX9_takeFrom_43 : decode cX9_takeFrom 43 = .ok (.iastore, 1) := by decide +kernel
theorem dX9_takeFrom_44 : decode cX9_takeFrom 44 = .ok (.aload_n 0, 1) := by decide +kernel
theorem dX9_takeFrom_45 : decode cX9_takeFrom 45 = .ok (.getfield 15, 3) := by decide +kernel
theorem dX9_takeFrom_48 : decode cX9_takeFrom 48 = .ok (.iload_n 2, 1) := by decide +kernel
theorem dX9_takeFrom_49 : decode cX9_takeFrom 49 = .ok (.aload_n 1, 1) := by decide +kernel
theorem dX9_takeFrom_50 : decode cX9_takeFrom 50 = .ok (.getfield 15, 3) := by decide +kernel
theorem dX9_takeFrom_53 : decode cX9_takeFrom 53 = .ok (.iload_n 2, 1) := by decide +kernel
theorem dX9_takeFrom_54 : decode cX9_takeFrom 54 = .ok (.iaload, 1) := by decide +kernel
theorem dX9_takeFrom_55 : decode cX9_takeFrom 55 = .ok (.iastore, 1) := by decide +kernel
theorem dX9_takeFrom_56 : decode cX9_takeFrom 56 = .ok (.iinc 2 1, 3) := by decide +kernel
theorem dX9_takeFrom_59 : decode cX9_takeFrom 59 = .ok (.goto (-33), 3) := by decide +kernel
theorem dX9_takeFrom_62 : decode cX9_takeFrom 62 = .ok (.iconst 0, 1) := by decide +kernel
theorem dX9_takeFrom_63 : decode cX9_takeFrom 63 = .ok (.istore_n 2, 1) := by decide +kernel
theorem dX9_takeFrom_64 : decode cX9_takeFrom 64 = .ok (.iload_n 2, 1) := by decide +kernel
theorem dX9_takeFrom_65 : decode cX9_takeFrom 65 = .ok (.iconst 3, 1) := by decide +kernel
theorem dX9_takeFrom_66 : decode cX9_takeFrom 66 = .ok (.if_icmp .ge 33, 3) := by decide +kernel
theorem dX9_takeFrom_69 : decode cX9_takeFrom 69 = .ok (.aload_n 0, 1) := by decide +kernel
theorem dX9_takeFrom_70 : decode cX9_takeFrom 70 = .ok (.getfield 18, 3) := by decide +kernel
theorem dX9_takeFrom_73 : decode cX9_takeFrom 73 = .ok (.iload_n 2, 1) := by decide +kernel
theorem dX9_takeFrom_74 : decode cX9_takeFrom 74 = .ok (.aload_n 1, 1) := by decide +kernel
theorem dX9_takeFrom_75 : decode cX9_takeFrom 75 = .ok (.getfield 18, 3) := by decide +kernel
theorem dX9_takeFrom_78 : decode cX9_takeFrom 78 = .ok (.iload_n 2, 1) := by decide +kernel
theorem dX9_takeFrom_79 : decode cX9_takeFrom 79 = .ok (.iaload, 1) := by decide +kernel
theorem dX9_takeFrom_80 : decode cX9_takeFrom 80 = .ok (.iastore, 1) := by decide +kernel
theorem dX9_takeFrom_81 : decode cX9_takeFrom 81 = .ok (.aload_n 0, 1) := by decide +kernel
theorem dX9_takeFrom_82 : decode cX9_takeFrom 82 = .ok (.getfield 21, 3) := by decide +kernel
theorem dX9_takeFrom_85 : decode cX9_takeFrom 85 = .ok (.iload_n 2, 1) := by decide +kernel
theorem dX9_takeFrom_86 : decode cX9_takeFrom 86 = .ok (.aload_n 1, 1) := by decide +kernel
theorem dX9_takeFrom_87 : decode cX9_takeFrom 87 = .ok (.getfield 21, 3) := by decide +kernel
theorem dX9_takeFrom_90 : decode cX9_takeFrom 90 = .ok (.iload_n 2, 1) := by decide +kernel
theorem dX9_takeFrom_91 : decode cX9_takeFrom 91 = .ok (.iaload, 1) := by decide +kernel
theorem dX9_takeFrom_92 : decode cX9_takeFrom 92 = .ok (.iastore, 1) := by decide +kernel
theorem dX9_takeFrom_93 : decode cX9_takeFrom 93 = .ok (.iinc 2 1, 3) := by decide +kernel
theorem dX9_takeFrom_96 : decode cX9_takeFrom 96 = .ok (.goto (-32), 3) := by decide +kernel
theorem dX9_takeFrom_99 : decode cX9_takeFrom 99 = .ok (.return_, 1) := by decide +kernel
theorem dX9_bentOf_0 : decode cX9_bentOf 0 = .ok (.iload_n 1, 1) := by decide +kernel
theorem dX9_bentOf_1 : decode cX9_bentOf 1 = .ok (.ifCond .lt 18, 3) := by decide +kernel
theorem dX9_bentOf_4 : decode cX9_bentOf 4 = .ok (.iload_n 1, 1) := by decide +kernel
theorem dX9_bentOf_5 : decode cX9_bentOf 5 = .ok (.bipush 7, 2) := by decide +kernel
theorem dX9_bentOf_7 : decode cX9_bentOf 7 = .ok (.if_icmp .ge 12, 3) := by decide +kernel
theorem dX9_bentOf_10 : decode cX9_bentOf 10 = .ok (.aload_n 0, 1) := by decide +kernel
theorem dX9_bentOf_11 : decode cX9_bentOf 11 = .ok (.getfield 9, 3) := by decide +kernel
theorem dX9_bentOf_14 : decode cX9_bentOf 14 = .ok (.iload_n 1, 1) := by decide +kernel
theorem dX9_bentOf_15 : decode cX9_bentOf 15 = .ok (.iaload, 1) := by decide +kernel
theorem dX9_bentOf_16 : decode cX9_bentOf 16 = .ok (.goto 4, 3) := by decide +kernel
theorem dX9_bentOf_19 : decode cX9_bentOf 19 = .ok (.iconst 0, 1) := by decide +kernel
theorem dX9_bentOf_20 : decode cX9_bentOf 20 = .ok (.ireturn, 1) := by decide +kernel
theorem dX9_turnedOf_0 : decode cX9_turnedOf 0 = .ok (.iload_n 1, 1) := by decide +kernel
theorem dX9_turnedOf_1 : decode cX9_turnedOf 1 = .ok (.ifCond .lt 18, 3) := by decide +kernel
theorem dX9_turnedOf_4 : decode cX9_turnedOf 4 = .ok (.iload_n 1, 1) := by decide +kernel
theorem dX9_turnedOf_5 : decode cX9_turnedOf 5 = .ok (.bipush 7, 2) := by decide +kernel
theorem dX9_turnedOf_7 : decode cX9_turnedOf 7 = .ok (.if_icmp .ge 12, 3) := by decide +kernel
theorem dX9_turnedOf_10 : decode cX9_turnedOf 10 = .ok (.aload_n 0, 1) := by decide +kernel
theorem dX9_turnedOf_11 : decode cX9_turnedOf 11 = .ok (.getfield 15, 3) := by decide +kernel
theorem dX9_turnedOf_14 : decode cX9_turnedOf 14 = .ok (.iload_n 1, 1) := by decide +kernel
theorem dX9_turnedOf_15 : decode cX9_turnedOf 15 = .ok (.iaload, 1) := by decide +kernel
theorem dX9_turnedOf_16 : decode cX9_turnedOf 16 = .ok (.goto 4, 3) := by decide +kernel
theorem dX9_turnedOf_19 : decode cX9_turnedOf 19 = .ok (.iconst 0, 1) := by decide +kernel
theorem dX9_turnedOf_20 : decode cX9_turnedOf 20 = .ok (.ireturn, 1) := by decide +kernel
theorem dX9_placeOf_0 : decode cX9_placeOf 0 = .ok (.iload_n 1, 1) := by decide +kernel
theorem dX9_placeOf_1 : decode cX9_placeOf 1 = .ok (.ifCond .lt 17, 3) := by decide +kernel
theorem dX9_placeOf_4 : decode cX9_placeOf 4 = .ok (.iload_n 1, 1) := by decide +kernel
theorem dX9_placeOf_5 : decode cX9_placeOf 5 = .ok (.iconst 3, 1) := by decide +kernel
theorem dX9_placeOf_6 : decode cX9_placeOf 6 = .ok (.if_icmp .ge 12, 3) := by decide +kernel
theorem dX9_placeOf_9 : decode cX9_placeOf 9 = .ok (.aload_n 0, 1) := by decide +kernel
theorem dX9_placeOf_10 : decode cX9_placeOf 10 = .ok (.getfield 18, 3) := by decide +kernel
theorem dX9_placeOf_13 : decode cX9_placeOf 13 = .ok (.iload_n 1, 1) := by decide +kernel
theorem dX9_placeOf_14 : decode cX9_placeOf 14 = .ok (.iaload, 1) := by decide +kernel
theorem dX9_placeOf_15 : decode cX9_placeOf 15 = .ok (.goto 4, 3) := by decide +kernel
theorem dX9_placeOf_18 : decode cX9_placeOf 18 = .ok (.iconst 0, 1) := by decide +kernel
theorem dX9_placeOf_19 : decode cX9_placeOf 19 = .ok (.ireturn, 1) := by decide +kernel
theorem dX9_minuteOf_0 : decode cX9_minuteOf 0 = .ok (.iload_n 1, 1) := by decide +kernel
theorem dX9_minuteOf_1 : decode cX9_minuteOf 1 = .ok (.ifCond .lt 17, 3) := by decide +kernel
theorem dX9_minuteOf_4 : decode cX9_minuteOf 4 = .ok (.iload_n 1, 1) := by decide +kernel
theorem dX9_minuteOf_5 : decode cX9_minuteOf 5 = .ok (.iconst 3, 1) := by decide +kernel
theorem dX9_minuteOf_6 : decode cX9_minuteOf 6 = .ok (.if_icmp .ge 12, 3) := by decide +kernel
theorem dX9_minuteOf_9 : decode cX9_minuteOf 9 = .ok (.aload_n 0, 1) := by decide +kernel
theorem dX9_minuteOf_10 : decode cX9_minuteOf 10 = .ok (.getfield 21, 3) := by decide +kernel
theorem dX9_minuteOf_13 : decode cX9_minuteOf 13 = .ok (.iload_n 1, 1) := by decide +kernel
theorem dX9_minuteOf_14 : decode cX9_minuteOf 14 = .ok (.iaload, 1) := by decide +kernel
theorem dX9_minuteOf_15 : decode cX9_minuteOf 15 = .ok (.goto 4, 3) := by decide +kernel
theorem dX9_minuteOf_18 : decode cX9_minuteOf 18 = .ok (.iconst 0, 1) := by decide +kernel
theorem dX9_minuteOf_19 : decode cX9_minuteOf 19 = .ok (.ireturn, 1) := by decide +kernel
theorem dX9_isOpen_0 : decode cX9_isOpen 0 = .ok (.aload_n 0, 1) := by decide +kernel
theorem dX9_isOpen_1 : decode cX9_isOpen 1 = .ok (.getfield 31, 3) := by decide +kernel
theorem dX9_isOpen_4 : decode cX9_isOpen 4 = .ok (.iload_n 1, 1) := by decide +kernel
theorem dX9_isOpen_5 : decode cX9_isOpen 5 = .ok (.ishr, 1) := by decide +kernel
theorem dX9_isOpen_6 : decode cX9_isOpen 6 = .ok (.iconst 1, 1) := by decide +kernel
theorem dX9_isOpen_7 : decode cX9_isOpen 7 = .ok (.iand, 1) := by decide +kernel
theorem dX9_isOpen_8 : decode cX9_isOpen 8 = .ok (.iconst 1, 1) := by decide +kernel
theorem dX9_isOpen_9 : decode cX9_isOpen 9 = .ok (.if_icmp .ne 7, 3) := by decide +kernel
theorem dX9_isOpen_12 : decode cX9_isOpen 12 = .ok (.iconst 1, 1) := by decide +kernel
theorem dX9_isOpen_13 : decode cX9_isOpen 13 = .ok (.goto 4, 3) := by decide +kernel
theorem dX9_isOpen_16 : decode cX9_isOpen 16 = .ok (.iconst 0, 1) := by decide +kernel
theorem dX9_isOpen_17 : decode cX9_isOpen 17 = .ok (.ireturn, 1) := by decide +kernel
theorem dX9_stand_0 : decode cX9_stand 0 = .ok (.iload_n 1, 1) := by decide +kernel
theorem dX9_stand_1 : decode cX9_stand 1 = .ok (.ifCond .lt 22, 3) := by decide +kernel
theorem dX9_stand_4 : decode cX9_stand 4 = .ok (.iload_n 1, 1) := by decide +kernel
theorem dX9_stand_5 : decode cX9_stand 5 = .ok (.iconst 3, 1) := by decide +kernel
theorem dX9_stand_6 : decode cX9_stand 6 = .ok (.if_icmp .ge 17, 3) := by decide +kernel
theorem dX9_stand_9 : decode cX9_stand 9 = .ok (.aload_n 0, 1) := by decide +kernel
theorem dX9_stand_10 : decode cX9_stand 10 = .ok (.getfield 18, 3) := by decide +kernel
theorem dX9_stand_13 : decode cX9_stand 13 = .ok (.iload_n 1, 1) := by decide +kernel
theorem dX9_stand_14 : decode cX9_stand 14 = .ok (.iload_n 2, 1) := by decide +kernel
theorem dX9_stand_15 : decode cX9_stand 15 = .ok (.iastore, 1) := by decide +kernel
theorem dX9_stand_16 : decode cX9_stand 16 = .ok (.aload_n 0, 1) := by decide +kernel
theorem dX9_stand_17 : decode cX9_stand 17 = .ok (.getfield 21, 3) := by decide +kernel
theorem dX9_stand_20 : decode cX9_stand 20 = .ok (.iload_n 1, 1) := by decide +kernel
theorem dX9_stand_21 : decode cX9_stand 21 = .ok (.iload_n 3, 1) := by decide +kernel
theorem dX9_stand_22 : decode cX9_stand 22 = .ok (.iastore, 1) := by decide +kernel
theorem dX9_stand_23 : decode cX9_stand 23 = .ok (.return_, 1) := by decide +kernel
theorem dX9_turn_0 : decode cX9_turn 0 = .ok (.iload_n 1, 1) := by decide +kernel
theorem dX9_turn_1 : decode cX9_turn 1 = .ok (.ifCond .lt 19, 3) := by decide +kernel
theorem dX9_turn_4 : decode cX9_turn 4 = .ok (.iload_n 1, 1) := by decide +kernel
theorem dX9_turn_5 : decode cX9_turn 5 = .ok (.bipush 7, 2) := by decide +kernel
theorem dX9_turn_7 : decode cX9_turn 7 = .ok (.if_icmp .ge 13, 3) := by decide +kernel
theorem dX9_turn_10 : decode cX9_turn 10 = .ok (.aload_n 0, 1) := by decide +kernel
theorem dX9_turn_11 : decode cX9_turn 11 = .ok (.getfield 15, 3) := by decide +kernel
theorem dX9_turn_14 : decode cX9_turn 14 = .ok (.iload_n 1, 1) := by decide +kernel
theorem dX9_turn_15 : decode cX9_turn 15 = .ok (.dup2, 1) := by decide +kernel
theorem dX9_turn_16 : decode cX9_turn 16 = .ok (.iaload, 1) := by decide +kernel
theorem dX9_turn_17 : decode cX9_turn 17 = .ok (.iconst 1, 1) := by decide +kernel
theorem dX9_turn_18 : decode cX9_turn 18 = .ok (.iadd, 1) := by decide +kernel
theorem dX9_turn_19 : decode cX9_turn 19 = .ok (.iastore, 1) := by decide +kernel
theorem dX9_turn_20 : decode cX9_turn 20 = .ok (.return_, 1) := by decide +kernel
theorem dX9_bend_0 : decode cX9_bend 0 = .ok (.iload_n 1, 1) := by decide +kernel
theorem dX9_bend_1 : decode cX9_bend 1 = .ok (.ifCond .lt 26, 3) := by decide +kernel
theorem dX9_bend_4 : decode cX9_bend 4 = .ok (.iload_n 1, 1) := by decide +kernel
theorem dX9_bend_5 : decode cX9_bend 5 = .ok (.bipush 7, 2) := by decide +kernel
theorem dX9_bend_7 : decode cX9_bend 7 = .ok (.if_icmp .ge 20, 3) := by decide +kernel
theorem dX9_bend_10 : decode cX9_bend 10 = .ok (.aload_n 0, 1) := by decide +kernel
theorem dX9_bend_11 : decode cX9_bend 11 = .ok (.getfield 9, 3) := by decide +kernel
theorem dX9_bend_14 : decode cX9_bend 14 = .ok (.iload_n 1, 1) := by decide +kernel
theorem dX9_bend_15 : decode cX9_bend 15 = .ok (.aload_n 0, 1) := by decide +kernel
theorem dX9_bend_16 : decode cX9_bend 16 = .ok (.getfield 9, 3) := by decide +kernel
theorem dX9_bend_19 : decode cX9_bend 19 = .ok (.iload_n 1, 1) := by decide +kernel
theorem dX9_bend_20 : decode cX9_bend 20 = .ok (.iaload, 1) := by decide +kernel
theorem dX9_bend_21 : decode cX9_bend 21 = .ok (.iconst 1, 1) := by decide +kernel
theorem dX9_bend_22 : decode cX9_bend 22 = .ok (.iadd, 1) := by decide +kernel
theorem dX9_bend_23 : decode cX9_bend 23 = .ok (.bipush 9, 2) := by decide +kernel
theorem dX9_bend_25 : decode cX9_bend 25 = .ok (.irem, 1) := by decide +kernel
theorem dX9_bend_26 : decode cX9_bend 26 = .ok (.iastore, 1) := by decide +kernel
theorem dX9_bend_27 : decode cX9_bend 27 = .ok (.return_, 1) := by decide +kernel
theorem dX9_restore_0 : decode cX9_restore 0 = .ok (.iload_n 1, 1) := by decide +kernel
theorem dX9_restore_1 : decode cX9_restore 1 = .ok (.ifCond .lt 23, 3) := by decide +kernel
theorem dX9_restore_4 : decode cX9_restore 4 = .ok (.iload_n 1, 1) := by decide +kernel
theorem dX9_restore_5 : decode cX9_restore 5 = .ok (.bipush 7, 2) := by decide +kernel
theorem dX9_restore_7 : decode cX9_restore 7 = .ok (.if_icmp .ge 17, 3) := by decide +kernel
theorem dX9_restore_10 : decode cX9_restore 10 = .ok (.aload_n 0, 1) := by decide +kernel
theorem dX9_restore_11 : decode cX9_restore 11 = .ok (.getfield 9, 3) := by decide +kernel
theorem dX9_restore_14 : decode cX9_restore 14 = .ok (.iload_n 1, 1) := by decide +kernel
theorem dX9_restore_15 : decode cX9_restore 15 = .ok (.iconst 0, 1) := by decide +kernel
theorem dX9_restore_16 : decode cX9_restore 16 = .ok (.iastore, 1) := by decide +kernel
theorem dX9_restore_17 : decode cX9_restore 17 = .ok (.aload_n 0, 1) := by decide +kernel
theorem dX9_restore_18 : decode cX9_restore 18 = .ok (.getfield 15, 3) := by decide +kernel
theorem dX9_restore_21 : decode cX9_restore 21 = .ok (.iload_n 1, 1) := by decide +kernel
theorem dX9_restore_22 : decode cX9_restore 22 = .ok (.iconst 0, 1) := by decide +kernel
theorem dX9_restore_23 : decode cX9_restore 23 = .ok (.iastore, 1) := by decide +kernel
theorem dX9_restore_24 : decode cX9_restore 24 = .ok (.return_, 1) := by decide +kernel
theorem dX9_open_0 : decode cX9_open 0 = .ok (.aload_n 0, 1) := by decide +kernel
theorem dX9_open_1 : decode cX9_open 1 = .ok (.dup, 1) := by decide +kernel
theorem dX9_open_2 : decode cX9_open 2 = .ok (.getfield 31, 3) := by decide +kernel
theorem dX9_open_5 : decode cX9_open 5 = .ok (.iconst 1, 1) := by decide +kernel
theorem dX9_open_6 : decode cX9_open 6 = .ok (.iload_n 1, 1) := by decide +kernel
theorem dX9_open_7 : decode cX9_open 7 = .ok (.ishl, 1) := by decide +kernel
theorem dX9_open_8 : decode cX9_open 8 = .ok (.ior, 1) := by decide +kernel
theorem dX9_open_9 : decode cX9_open 9 = .ok (.putfield 31, 3) := by decide +kernel
theorem dX9_open_12 : decode cX9_open 12 = .ok (.aload_n 0, 1) := by decide +kernel
theorem dX9_open_13 : decode cX9_open 13 = .ok (.dup, 1) := by decide +kernel
theorem dX9_open_14 : decode cX9_open 14 = .ok (.getfield 28, 3) := by decide +kernel
theorem dX9_open_17 : decode cX9_open 17 = .ok (.iload_n 2, 1) := by decide +kernel
theorem dX9_open_18 : decode cX9_open 18 = .ok (.iadd, 1) := by decide +kernel
theorem dX9_open_19 : decode cX9_open 19 = .ok (.putfield 28, 3) := by decide +kernel
theorem dX9_open_22 : decode cX9_open 22 = .ok (.return_, 1) := by decide +kernel
theorem dX9_close_0 : decode cX9_close 0 = .ok (.aload_n 0, 1) := by decide +kernel
theorem dX9_close_1 : decode cX9_close 1 = .ok (.dup, 1) := by decide +kernel
theorem dX9_close_2 : decode cX9_close 2 = .ok (.getfield 31, 3) := by decide +kernel
theorem dX9_close_5 : decode cX9_close 5 = .ok (.iconst 1, 1) := by decide +kernel
theorem dX9_close_6 : decode cX9_close 6 = .ok (.iload_n 1, 1) := by decide +kernel
theorem dX9_close_7 : decode cX9_close 7 = .ok (.ishl, 1) := by decide +kernel
theorem dX9_close_8 : decode cX9_close 8 = .ok (.iconst (-1), 1) := by decide +kernel
theorem dX9_close_9 : decode cX9_close 9 = .ok (.ixor, 1) := by decide +kernel
theorem dX9_close_10 : decode cX9_close 10 = .ok (.iand, 1) := by decide +kernel
theorem dX9_close_11 : decode cX9_close 11 = .ok (.putfield 31, 3) := by decide +kernel
theorem dX9_close_14 : decode cX9_close 14 = .ok (.return_, 1) := by decide +kernel
theorem dX9_nextDay_0 : decode cX9_nextDay 0 = .ok (.aload_n 0, 1) := by decide +kernel
theorem dX9_nextDay_1 : decode cX9_nextDay 1 = .ok (.dup, 1) := by decide +kernel
theorem dX9_nextDay_2 : decode cX9_nextDay 2 = .ok (.getfield 24, 3) := by decide +kernel
theorem dX9_nextDay_5 : decode cX9_nextDay 5 = .ok (.iconst 1, 1) := by decide +kernel
theorem dX9_nextDay_6 : decode cX9_nextDay 6 = .ok (.iadd, 1) := by decide +kernel
theorem dX9_nextDay_7 : decode cX9_nextDay 7 = .ok (.putfield 24, 3) := by decide +kernel
theorem dX9_nextDay_10 : decode cX9_nextDay 10 = .ok (.iconst 0, 1) := by decide +kernel
theorem dX9_nextDay_11 : decode cX9_nextDay 11 = .ok (.istore_n 1, 1) := by decide +kernel
theorem dX9_nextDay_12 : decode cX9_nextDay 12 = .ok (.iload_n 1, 1) := by decide +kernel
theorem dX9_nextDay_13 : decode cX9_nextDay 13 = .ok (.iconst 3, 1) := by decide +kernel
theorem dX9_nextDay_14 : decode cX9_nextDay 14 = .ok (.if_icmp .ge 16, 3) := by decide +kernel
theorem dX9_nextDay_17 : decode cX9_nextDay 17 = .ok (.aload_n 0, 1) := by decide +kernel
theorem dX9_nextDay_18 : decode cX9_nextDay 18 = .ok (.getfield 21, 3) := by decide +kernel
theorem dX9_nextDay_21 : decode cX9_nextDay 21 = .ok (.iload_n 1, 1) := by decide +kernel
theorem dX9_nextDay_22 : decode cX9_nextDay 22 = .ok (.iconst 0, 1) := by decide +kernel
theorem dX9_nextDay_23 : decode cX9_nextDay 23 = .ok (.iastore, 1) := by decide +kernel
theorem dX9_nextDay_24 : decode cX9_nextDay 24 = .ok (.iinc 1 1, 3) := by decide +kernel
theorem dX9_nextDay_27 : decode cX9_nextDay 27 = .ok (.goto (-15), 3) := by decide +kernel
theorem dX9_nextDay_30 : decode cX9_nextDay 30 = .ok (.return_, 1) := by decide +kernel
theorem dX10_init_0 : decode cX10_init 0 = .ok (.aload_n 0, 1) := by decide +kernel
theorem dX10_init_1 : decode cX10_init 1 = .ok (.invokespecial 3, 3) := by decide +kernel
theorem dX10_init_4 : decode cX10_init 4 = .ok (.aload_n 0, 1) := by decide +kernel
theorem dX10_init_5 : decode cX10_init 5 = .ok (.sipush 200, 3) := by decide +kernel
theorem dX10_init_8 : decode cX10_init 8 = .ok (.newarray .int, 2) := by decide +kernel
theorem dX10_init_10 : decode cX10_init 10 = .ok (.putfield 11, 3) := by decide +kernel
theorem dX10_init_13 : decode cX10_init 13 = .ok (.aload_n 0, 1) := by decide +kernel
theorem dX10_init_14 : decode cX10_init 14 = .ok (.bipush 20, 2) := by decide +kernel
theorem dX10_init_16 : decode cX10_init 16 = .ok (.newarray .int, 2) := by decide +kernel
theorem dX10_init_18 : decode cX10_init 18 = .ok (.putfield 15, 3) := by decide +kernel
theorem dX10_init_21 : decode cX10_init 21 = .ok (.aload_n 0, 1) := by decide +kernel
theorem dX10_init_22 : decode cX10_init 22 = .ok (.bipush 80, 2) := by decide +kernel
theorem dX10_init_24 : decode cX10_init 24 = .ok (.newarray .int, 2) := by decide +kernel
theorem dX10_init_26 : decode cX10_init 26 = .ok (.putfield 18, 3) := by decide +kernel
theorem dX10_init_29 : decode cX10_init 29 = .ok (.return_, 1) := by decide +kernel
theorem dX10_hasPlace_0 : decode cX10_hasPlace 0 = .ok (.aload_n 0, 1) := by decide +kernel
theorem dX10_hasPlace_1 : decode cX10_hasPlace 1 = .ok (.getfield 21, 3) := by decide +kernel
theorem dX10_hasPlace_4 : decode cX10_hasPlace 4 = .ok (.sipush 200, 3) := by decide +kernel
theorem dX10_hasPlace_7 : decode cX10_hasPlace 7 = .ok (.if_icmp .ge 7, 3) := by decide +kernel
theorem dX10_hasPlace_10 : decode cX10_hasPlace 10 = .ok (.iconst 1, 1) := by decide +kernel
theorem dX10_hasPlace_11 : decode cX10_hasPlace 11 = .ok (.goto 4, 3) := by decide +kernel
theorem dX10_hasPlace_14 : decode cX10_hasPlace 14 = .ok (.iconst 0, 1) := by decide +kernel
theorem dX10_hasPlace_15 : decode cX10_hasPlace 15 = .ok (.ireturn, 1) := by decide +kernel
set_option maxRecDepth 20000 in
theorem ggX10_add_X10_hasPlace : GoodIn wsX10_add wsX10_hasPlace := goodIn_r _ [7, 2, 8, 9, 10, 11, 12, 13, 14, 15, 16, 17] rfl (by decide +kernel)
set_option maxRecDepth 20000 in
theorem gX10_add_X10_hasPlace : GoodIn wsX10_add (wsV RX10 25 RX10 yX10_hasPlace wsX10_hasPlace) := goodIn_app (goodIn_of _ (by decide +kernel)) ggX10_add_X10_hasPlace
theorem dX10_add_0 : decode cX10_add 0 = .ok (.aload_n 0, 1) := by decide +kernel
theorem dX10_add_1 : decode cX10_add 1 = .ok (.invokevirtual 25, 3) := by decide +kernel
theorem dX10_add_4 : decode cX10_add 4 = .ok (.ifCond .eq 23, 3) := by decide +kernel
theorem dX10_add_7 : decode cX10_add 7 = .ok (.aload_n 0, 1) := by decide +kernel
theorem dX10_add_8 : decode cX10_add 8 = .ok (.getfield 11, 3) := by decide +kernel
theorem dX10_add_11 : decode cX10_add 11 = .ok (.aload_n 0, 1) := by decide +kernel
theorem dX10_add_12 : decode cX10_add 12 = .ok (.getfield 21, 3) := by decide +kernel
theorem dX10_add_15 : decode cX10_add 15 = .ok (.iload_n 1, 1) := by decide +kernel
theorem dX10_add_16 : decode cX10_add 16 = .ok (.iastore, 1) := by decide +kernel
theorem dX10_add_17 : decode cX10_add 17 = .ok (.aload_n 0, 1) := by decide +kernel
theorem dX10_add_18 : decode cX10_add 18 = .ok (.dup, 1) := by decide +kernel
theorem dX10_add_19 : decode cX10_add 19 = .ok (.getfield 21, 3) := by decide +kernel
theorem dX10_add_22 : decode cX10_add 22 = .ok (.iconst 1, 1) := by decide +kernel
theorem dX10_add_23 : decode cX10_add 23 = .ok (.iadd, 1) := by decide +kernel
theorem dX10_add_24 : decode cX10_add 24 = .ok (.putfield 21, 3) := by decide +kernel
theorem dX10_add_27 : decode cX10_add 27 = .ok (.return_, 1) := by decide +kernel
theorem dX10_takeLetters_0 : decode cX10_takeLetters 0 = .ok (.iconst 0, 1) := by decide +kernel
theorem dX10_takeLetters_1 : decode cX10_takeLetters 1 = .ok (.istore_n 2, 1) := by decide +kernel
theorem dX10_takeLetters_2 : decode cX10_takeLetters 2 = .ok (.iload_n 2, 1) := by decide +kernel
theorem dX10_takeLetters_3 : decode cX10_takeLetters 3 = .ok (.aload_n 1, 1) := by decide +kernel
theorem dX10_takeLetters_4 : decode cX10_takeLetters 4 = .ok (.getfield 21, 3) := by decide +kernel
theorem dX10_takeLetters_7 : decode cX10_takeLetters 7 = .ok (.if_icmp .ge 28, 3) := by decide +kernel
theorem dX10_takeLetters_10 : decode cX10_takeLetters 10 = .ok (.iload_n 2, 1) := by decide +kernel
theorem dX10_takeLetters_11 : decode cX10_takeLetters 11 = .ok (.sipush 200, 3) := by decide +kernel
theorem dX10_takeLetters_14 : decode cX10_takeLetters 14 = .ok (.if_icmp .ge 21, 3) := by decide +kernel
theorem dX10_takeLetters_17 : decode cX10_takeLetters 17 = .ok (.aload_n 0, 1) := by decide +kernel
theorem dX10_takeLetters_18 : decode cX10_takeLetters 18 = .ok (.getfield 11, 3) := by decide +kernel
theorem dX10_takeLetters_21 : decode cX10_takeLetters 21 = .ok (.iload_n 2, 1) := by decide +kernel
theorem dX10_takeLetters_22 : decode cX10_takeLetters 22 = .ok (.aload_n 1, 1) := by decide +kernel
theorem dX10_takeLetters_23 : decode cX10_takeLetters 23 = .ok (.getfield 11, 3) := by decide +kernel
theorem dX10_takeLetters_26 : decode cX10_takeLetters 26 = .ok (.iload_n 2, 1) := by decide +kernel
theorem dX10_takeLetters_27 : decode cX10_takeLetters 27 = .ok (.iaload, 1) := by decide +kernel
theorem dX10_takeLetters_28 : decode cX10_takeLetters 28 = .ok (.iastore, 1) := by decide +kernel
theorem dX10_takeLetters_29 : decode cX10_takeLetters 29 = .ok (.iinc 2 1, 3) := by decide +kernel
theorem dX10_takeLetters_32 : decode cX10_takeLetters 32 = .ok (.goto (-30), 3) := by decide +kernel
theorem dX10_takeLetters_35 : decode cX10_takeLetters 35 = .ok (.aload_n 0, 1) := by decide +kernel
theorem dX10_takeLetters_36 : decode cX10_takeLetters 36 = .ok (.aload_n 1, 1) := by decide +kernel
theorem dX10_takeLetters_37 : decode cX10_takeLetters 37 = .ok (.getfield 21, 3) := by decide +kernel
theorem dX10_takeLetters_40 : decode cX10_takeLetters 40 = .ok (.putfield 21, 3) := by decide +kernel
theorem dX10_takeLetters_43 : decode cX10_takeLetters 43 = .ok (.return_, 1) := by decide +kernel
theorem dX10_wordOf_0 : decode cX10_wordOf 0 = .ok (.iload_n 1, 1) := by decide +kernel
theorem dX10_wordOf_1 : decode cX10_wordOf 1 = .ok (.ifCond .lt 18, 3) := by decide +kernel
theorem dX10_wordOf_4 : decode cX10_wordOf 4 = .ok (.iload_n 1, 1) := by decide +kernel
theorem dX10_wordOf_5 : decode cX10_wordOf 5 = .ok (.bipush 20, 2) := by decide +kernel
theorem dX10_wordOf_7 : decode cX10_wordOf 7 = .ok (.if_icmp .ge 12, 3) := by decide +kernel
theorem dX10_wordOf_10 : decode cX10_wordOf 10 = .ok (.aload_n 0, 1) := by decide +kernel
theorem dX10_wordOf_11 : decode cX10_wordOf 11 = .ok (.getfield 15, 3) := by decide +kernel
theorem dX10_wordOf_14 : decode cX10_wordOf 14 = .ok (.iload_n 1, 1) := by decide +kernel
theorem dX10_wordOf_15 : decode cX10_wordOf 15 = .ok (.iaload, 1) := by decide +kernel
theorem dX10_wordOf_16 : decode cX10_wordOf 16 = .ok (.goto 4, 3) := by decide +kernel
theorem dX10_wordOf_19 : decode cX10_wordOf 19 = .ok (.iconst (-1), 1) := by decide +kernel
theorem dX10_wordOf_20 : decode cX10_wordOf 20 = .ok (.ireturn, 1) := by decide +kernel
theorem dX10_numberOf_0 : decode cX10_numberOf 0 = .ok (.iload_n 1, 1) := by decide +kernel
theorem dX10_numberOf_1 : decode cX10_numberOf 1 = .ok (.iconst 4, 1) := by decide +kernel
theorem dX10_numberOf_2 : decode cX10_numberOf 2 = .ok (.imul, 1) := by decide +kernel
theorem dX10_numberOf_3 : decode cX10_numberOf 3 = .ok (.iload_n 2, 1) := by decide +kernel
theorem dX10_numberOf_4 : decode cX10_numberOf 4 = .ok (.iadd, 1) := by decide +kernel
theorem dX10_numberOf_5 : decode cX10_numberOf 5 = .ok (.istore_n 3, 1) := by decide +kernel
theorem dX10_numberOf_6 : decode cX10_numberOf 6 = .ok (.iload_n 3, 1) := by decide +kernel
theorem dX10_numberOf_7 : decode cX10_numberOf 7 = .ok (.ifCond .lt 18, 3) := by decide +kernel
theorem dX10_numberOf_10 : decode cX10_numberOf 10 = .ok (.iload_n 3, 1) := by decide +kernel
theorem dX10_numberOf_11 : decode cX10_numberOf 11 = .ok (.bipush 80, 2) := by decide +kernel
theorem dX10_numberOf_13 : decode cX10_numberOf 13 = .ok (.if_icmp .ge 12, 3) := by decide +kernel
theorem dX10_numberOf_16 : decode cX10_numberOf 16 = .ok (.aload_n 0, 1) := by decide +kernel
theorem dX10_numberOf_17 : decode cX10_numberOf 17 = .ok (.getfield 18, 3) := by decide +kernel
theorem dX10_numberOf_20 : decode cX10_numberOf 20 = .ok (.iload_n 3, 1) := by decide +kernel
theorem dX10_numberOf_21 : decode cX10_numberOf 21 = .ok (.iaload, 1) := by decide +kernel
theorem dX10_numberOf_22 : decode cX10_numberOf 22 = .ok (.goto 4, 3) := by decide +kernel
theorem dX10_numberOf_25 : decode cX10_numberOf 25 = .ok (.iconst 0, 1) := by decide +kernel
theorem dX10_numberOf_26 : decode cX10_numberOf 26 = .ok (.ireturn, 1) := by decide +kernel
set_option maxRecDepth 20000 in
theorem ggX10_readFor_X10_nextToken : GoodIn wsX10_readFor wsX10_nextToken := goodIn_r _ [15, 2, 9, 10, 16, 17, 18, 14, 19, 20, 21, 22, 23, 99, 100, 101, 102, 103, 104, 105, 106, 107, 108] rfl (by decide +kernel)
set_option maxRecDepth 20000 in
theorem gX10_readFor_X10_nextToken : GoodIn wsX10_readFor (wsV RX10 55 RX10 yX10_nextToken wsX10_nextToken) := goodIn_app (goodIn_of _ (by decide +kernel)) ggX10_readFor_X10_nextToken
set_option maxRecDepth 20000 in
theorem ggX10_readFor_X10_readClause : GoodIn wsX10_readFor wsX10_readClause := goodIn_r _ [27, 1, 28, 29, 30, 31, 32, 33, 14, 34, 35, 36, 37, 38, 39, 40, 41, 2, 9, 42, 43, 44, 45, 46, 47, 48, 49, 50, 51, 52, 53, 16, 17, 18, 19, 10, 20, 54, 55, 56, 57, 58, 59, 60, 61, 62, 63, 64, 65, 66, 67, 68, 69, 70, 71, 72, 73, 74, 75, 76, 77, 78, 79, 80, 81, 82, 83, 84, 85, 86, 87, 88, 89, 90, 91, 92, 93, 94, 4, 6, 8, 11, 12, 13, 15, 21, 22, 23, 95, 96, 97, 98, 99, 100, 101, 102, 103, 104, 105, 106, 107, 108] rfl (by decide +kernel)
set_option maxRecDepth 20000 in
theorem gX10_readFor_X10_readClause : GoodIn wsX10_readFor (wsV RX10 58 RX10 yX10_readClause wsX10_readClause) := goodIn_app (goodIn_of _ (by decide +kernel)) ggX10_readFor_X10_readClause
set_option maxRecDepth 20000 in
theorem ggX10_readFor_X10_letterAt : GoodIn wsX10_readFor wsX10_letterAt := goodIn_r _ [19, 10, 20, 99, 100, 101, 102, 103, 104, 105, 106, 107, 108] rfl (by decide +kernel)
set_option maxRecDepth 20000 in
theorem gX10_readFor_X10_letterAt : GoodIn wsX10_readFor (wsV RX10 64 RX10 yX10_letterAt wsX10_letterAt) := goodIn_app (goodIn_of _ (by decide +kernel)) ggX10_readFor_X10_letterAt
theorem dX10_readFor_0 : decode cX10_readFor 0 = .ok (.aload_n 0, 1) := by decide +kernel
theorem dX10_readFor_1 : decode cX10_readFor 1 = .ok (.iconst 0, 1) := by decide +kernel
theorem dX10_readFor_2 : decode cX10_readFor 2 = .ok (.putfield 29, 3) := by decide +kernel
theorem dX10_readFor_5 : decode cX10_readFor 5 = .ok (.aload_n 0, 1) := by decide +kernel
theorem dX10_readFor_6 : decode cX10_readFor 6 = .ok (.iconst 0, 1) := by decide +kernel
theorem dX10_readFor_7 : decode cX10_readFor 7 = .ok (.putfield 32, 3) := by decide +kernel
theorem dX10_readFor_10 : decode cX10_readFor 10 = .ok (.aload_n 0, 1) := by decide +kernel
theorem dX10_readFor_11 : decode cX10_readFor 11 = .ok (.bipush 7, 2) := by decide +kernel
theorem dX10_readFor_13 : decode cX10_readFor 13 = .ok (.aload_n 1, 1) := by decide +kernel
theorem dX10_readFor_14 : decode cX10_readFor 14 = .ok (.getfield 35, 3) := by decide +kernel
theorem dX10_readFor_17 : decode cX10_readFor 17 = .ok (.isub, 1) := by decide +kernel
theorem dX10_readFor_18 : decode cX10_readFor 18 = .ok (.putfield 40, 3) := by decide +kernel
theorem dX10_readFor_21 : decode cX10_readFor 21 = .ok (.aload_n 0, 1) := by decide +kernel
theorem dX10_readFor_22 : decode cX10_readFor 22 = .ok (.bipush 7, 2) := by decide +kernel
theorem dX10_readFor_24 : decode cX10_readFor 24 = .ok (.aload_n 1, 1) := by decide +kernel
theorem dX10_readFor_25 : decode cX10_readFor 25 = .ok (.getfield 43, 3) := by decide +kernel
theorem dX10_readFor_28 : decode cX10_readFor 28 = .ok (.isub, 1) := by decide +kernel
theorem dX10_readFor_29 : decode cX10_readFor 29 = .ok (.putfield 46, 3) := by decide +kernel
theorem dX10_readFor_32 : decode cX10_readFor 32 = .ok (.aload_n 0, 1) := by decide +kernel
theorem dX10_readFor_33 : decode cX10_readFor 33 = .ok (.iconst 3, 1) := by decide +kernel
theorem dX10_readFor_34 : decode cX10_readFor 34 = .ok (.aload_n 1, 1) := by decide +kernel
theorem dX10_readFor_35 : decode cX10_readFor 35 = .ok (.getfield 49, 3) := by decide +kernel
theorem dX10_readFor_38 : decode cX10_readFor 38 = .ok (.isub, 1) := by decide +kernel
theorem dX10_readFor_39 : decode cX10_readFor 39 = .ok (.putfield 52, 3) := by decide +kernel
theorem dX10_readFor_42 : decode cX10_readFor 42 = .ok (.iconst 0, 1) := by decide +kernel
theorem dX10_readFor_43 : decode cX10_readFor 43 = .ok (.istore_n 2, 1) := by decide +kernel
theorem dX10_readFor_44 : decode cX10_readFor 44 = .ok (.iload_n 2, 1) := by decide +kernel
theorem dX10_readFor_45 : decode cX10_readFor 45 = .ok (.bipush 20, 2) := by decide +kernel
theorem dX10_readFor_47 : decode cX10_readFor 47 = .ok (.if_icmp .ge 60, 3) := by decide +kernel
theorem dX10_readFor_50 : decode cX10_readFor 50 = .ok (.aload_n 0, 1) := by decide +kernel
theorem dX10_readFor_51 : decode cX10_readFor 51 = .ok (.invokevirtual 55, 3) := by decide +kernel
theorem dX10_readFor_54 : decode cX10_readFor 54 = .ok (.aload_n 0, 1) := by decide +kernel
theorem dX10_readFor_55 : decode cX10_readFor 55 = .ok (.invokevirtual 58, 3) := by decide +kernel
theorem dX10_readFor_58 : decode cX10_readFor 58 = .ok (.ifCond .ne 8, 3) := by decide +kernel
theorem dX10_readFor_61 : decode cX10_readFor 61 = .ok (.aload_n 0, 1) := by decide +kernel
theorem dX10_readFor_62 : decode cX10_readFor 62 = .ok (.getfield 61, 3) := by decide +kernel
theorem dX10_readFor_65 : decode cX10_readFor 65 = .ok (.ireturn, 1) := by decide +kernel
theorem dX10_readFor_66 : decode cX10_readFor 66 = .ok (.aload_n 0, 1) := by decide +kernel
theorem dX10_readFor_67 : decode cX10_readFor 67 = .ok (.invokevirtual 55, 3) := by decide +kernel
theorem dX10_readFor_70 : decode cX10_readFor 70 = .ok (.aload_n 0, 1) := by decide +kernel
theorem dX10_readFor_71 : decode cX10_readFor 71 = .ok (.getfield 61, 3) := by decide +kernel
theorem dX10_readFor_74 : decode cX10_readFor 74 = .ok (.aload_n 0, 1) := by decide +kernel
theorem dX10_readFor_75 : decode cX10_readFor 75 = .ok (.getfield 21, 3) := by decide +kernel
theorem dX10_readFor_78 : decode cX10_readFor 78 = .ok (.if_icmp .lt 5, 3) := by decide +kernel
theorem dX10_readFor_81 : decode cX10_readFor 81 = .ok (.iconst (-1), 1) := by decide +kernel
theorem dX10_readFor_82 : decode cX10_readFor 82 = .ok (.ireturn, 1) := by decide +kernel
theorem dX10_readFor_83 : decode cX10_readFor 83 = .ok (.aload_n 0, 1) := by decide +kernel
theorem dX10_readFor_84 : decode cX10_readFor 84 = .ok (.aload_n 0, 1) := by decide +kernel
theorem dX10_readFor_85 : decode cX10_readFor 85 = .ok (.getfield 61, 3) := by decide +kernel
theorem dX10_readFor_88 : decode cX10_readFor 88 = .ok (.invokevirtual 64, 3) := by decide +kernel
theorem dX10_readFor_91 : decode cX10_readFor 91 = .ok (.bipush 59, 2) := by decide +kernel
theorem dX10_readFor_93 : decode cX10_readFor 93 = .ok (.if_icmp .eq 8, 3) := by decide +kernel
theorem dX10_readFor_96 : decode cX10_readFor 96 = .ok (.aload_n 0, 1) := by decide +kernel
theorem dX10_readFor_97 : decode cX10_readFor 97 = .ok (.getfield 61, 3) := by decide +kernel
theorem dX10_readFor_100 : decode cX10_readFor 100 = .ok (.ireturn, 1) := by decide +kernel
theorem dX10_readFor_101 : decode cX10_readFor 101 = .ok (.iinc 2 1, 3) := by decide +kernel
theorem dX10_readFor_104 : decode cX10_readFor 104 = .ok (.goto (-60), 3) := by decide +kernel
theorem dX10_readFor_107 : decode cX10_readFor 107 = .ok (.aload_n 0, 1) := by decide +kernel
theorem dX10_readFor_108 : decode cX10_readFor 108 = .ok (.getfield 61, 3) := by decide +kernel
theorem dX10_readFor_111 : decode cX10_readFor 111 = .ok (.ireturn, 1) := by decide +kernel
set_option maxRecDepth 20000 in
theorem ggX10_readClause_X10_wordHere : GoodIn wsX10_readClause wsX10_wordHere := goodIn_r _ [9, 10, 11, 8, 12, 13, 14, 15, 16, 17, 18, 19, 20, 21, 22, 23, 24, 25, 26, 27, 28, 29, 30, 31, 32, 33, 34, 35, 36, 37, 38, 39, 40, 41, 42, 43, 44, 45, 46, 47, 48, 49, 50, 51, 52, 53, 54, 55, 56, 57, 58, 59, 60, 61, 62, 63, 64, 65, 66, 67, 68, 69, 70, 71, 72, 73, 92, 93, 94, 95, 96, 97, 98, 99, 100, 101] rfl (by decide +kernel)
set_option maxRecDepth 20000 in
theorem gX10_readClause_X10_wordHere : GoodIn wsX10_readClause (wsV RX10 68 RX10 yX10_wordHere wsX10_wordHere) := goodIn_app (goodIn_of _ (by decide +kernel)) ggX10_readClause_X10_wordHere
set_option maxRecDepth 20000 in
theorem ggX10_readClause_X10_takesPlace : GoodIn wsX10_readClause wsX10_takesPlace := goodIn_r _ [77, 78, 79, 80, 92, 93, 94, 95, 96, 97, 98, 99, 100, 101] rfl (by decide +kernel)
set_option maxRecDepth 20000 in
theorem gX10_readClause_X10_takesPlace : GoodIn wsX10_readClause (wsV RX10 72 RX10 yX10_takesPlace wsX10_takesPlace) := goodIn_app (goodIn_of _ (by decide +kernel)) ggX10_readClause_X10_takesPlace
set_option maxRecDepth 20000 in
theorem ggX10_readClause_X10_nextToken : GoodIn wsX10_readClause wsX10_nextToken := goodIn_r _ [84, 17, 18, 35, 31, 32, 33, 8, 34, 36, 85, 86, 87, 92, 93, 94, 95, 96, 97, 98, 99, 100, 101] rfl (by decide +kernel)
set_option maxRecDepth 20000 in
theorem gX10_readClause_X10_nextToken : GoodIn wsX10_readClause (wsV RX10 55 RX10 yX10_nextToken wsX10_nextToken) := goodIn_app (goodIn_of _ (by decide +kernel)) ggX10_readClause_X10_nextToken
set_option maxRecDepth 20000 in
theorem ggX10_readClause_X10_numberHere : GoodIn wsX10_readClause wsX10_numberHere := goodIn_r _ [91, 18, 35, 17, 31, 32, 33, 8, 34, 36, 85, 86, 87, 92, 93, 94, 95, 96, 97, 98, 99, 100, 101] rfl (by decide +kernel)
set_option maxRecDepth 20000 in
theorem gX10_readClause_X10_numberHere : GoodIn wsX10_readClause (wsV RX10 79 RX10 yX10_numberHere wsX10_numberHere) := goodIn_app (goodIn_of _ (by decide +kernel)) ggX10_readClause_X10_numberHere
theorem dX10_readClause_0 : decode cX10_readClause 0 = .ok (.aload_n 0, 1) := by decide +kernel
theorem dX10_readClause_1 : decode cX10_readClause 1 = .ok (.invokevirtual 68, 3) := by decide +kernel
theorem dX10_readClause_4 : decode cX10_readClause 4 = .ok (.istore_n 1, 1) := by decide +kernel
theorem dX10_readClause_5 : decode cX10_readClause 5 = .ok (.iload_n 1, 1) := by decide +kernel
theorem dX10_readClause_6 : decode cX10_readClause 6 = .ok (.iconst (-1), 1) := by decide +kernel
theorem dX10_readClause_7 : decode cX10_readClause 7 = .ok (.if_icmp .eq 20, 3) := by decide +kernel
theorem dX10_readClause_10 : decode cX10_readClause 10 = .ok (.aload_n 0, 1) := by decide +kernel
theorem dX10_readClause_11 : decode cX10_readClause 11 = .ok (.getfield 29, 3) := by decide +kernel
theorem dX10_readClause_14 : decode cX10_readClause 14 = .ok (.bipush 20, 2) := by decide +kernel
theorem dX10_readClause_16 : decode cX10_readClause 16 = .ok (.if_icmp .ge 11, 3) := by decide +kernel
theorem dX10_readClause_19 : decode cX10_readClause 19 = .ok (.aload_n 0, 1) := by decide +kernel
theorem dX10_readClause_20 : decode cX10_readClause 20 = .ok (.iload_n 1, 1) := by decide +kernel
theorem dX10_readClause_21 : decode cX10_readClause 21 = .ok (.invokevirtual 72, 3) := by decide +kernel
theorem dX10_readClause_24 : decode cX10_readClause 24 = .ok (.ifCond .ne 5, 3) := by decide +kernel
theorem dX10_readClause_27 : decode cX10_readClause 27 = .ok (.iconst 0, 1) := by decide +kernel
theorem dX10_readClause_28 : decode cX10_readClause 28 = .ok (.ireturn, 1) := by decide +kernel
theorem dX10_readClause_29 : decode cX10_readClause 29 = .ok (.aload_n 0, 1) := by decide +kernel
theorem dX10_readClause_30 : decode cX10_readClause 30 = .ok (.getfield 15, 3) := by decide +kernel
theorem dX10_readClause_33 : decode cX10_readClause 33 = .ok (.aload_n 0, 1) := by decide +kernel
theorem dX10_readClause_34 : decode cX10_readClause 34 = .ok (.getfield 29, 3) := by decide +kernel
theorem dX10_readClause_37 : decode cX10_readClause 37 = .ok (.iload_n 1, 1) := by decide +kernel
theorem dX10_readClause_38 : decode cX10_readClause 38 = .ok (.iastore, 1) := by decide +kernel
theorem dX10_readClause_39 : decode cX10_readClause 39 = .ok (.iconst 0, 1) := by decide +kernel
theorem dX10_readClause_40 : decode cX10_readClause 40 = .ok (.istore_n 2, 1) := by decide +kernel
theorem dX10_readClause_41 : decode cX10_readClause 41 = .ok (.iload_n 2, 1) := by decide +kernel
theorem dX10_readClause_42 : decode cX10_readClause 42 = .ok (.iconst 4, 1) := by decide +kernel
theorem dX10_readClause_43 : decode cX10_readClause 43 = .ok (.if_icmp .ge 77, 3) := by decide +kernel
theorem dX10_readClause_46 : decode cX10_readClause 46 = .ok (.getstatic 76, 3) := by decide +kernel
theorem dX10_readClause_49 : decode cX10_readClause 49 = .ok (.iload_n 1, 1) := by decide +kernel
theorem dX10_readClause_50 : decode cX10_readClause 50 = .ok (.iconst 4, 1) := by decide +kernel
theorem dX10_readClause_51 : decode cX10_readClause 51 = .ok (.imul, 1) := by decide +kernel
theorem dX10_readClause_52 : decode cX10_readClause 52 = .ok (.iload_n 2, 1) := by decide +kernel
theorem dX10_readClause_53 : decode cX10_readClause 53 = .ok (.iadd, 1) := by decide +kernel
theorem dX10_readClause_54 : decode cX10_readClause 54 = .ok (.iaload, 1) := by decide +kernel
theorem dX10_readClause_55 : decode cX10_readClause 55 = .ok (.istore_n 3, 1) := by decide +kernel
theorem dX10_readClause_56 : decode cX10_readClause 56 = .ok (.iconst 0, 1) := by decide +kernel
theorem dX10_readClause_57 : decode cX10_readClause 57 = .ok (.istore 4, 2) := by decide +kernel
theorem dX10_readClause_59 : decode cX10_readClause 59 = .ok (.iload_n 3, 1) := by decide +kernel
theorem dX10_readClause_60 : decode cX10_readClause 60 = .ok (.iconst (-1), 1) := by decide +kernel
theorem dX10_readClause_61 : decode cX10_readClause 61 = .ok (.if_icmp .eq 38, 3) := by decide +kernel
theorem dX10_readClause_64 : decode cX10_readClause 64 = .ok (.aload_n 0, 1) := by decide +kernel
theorem dX10_readClause_65 : decode cX10_readClause 65 = .ok (.invokevirtual 55, 3) := by decide +kernel
theorem dX10_readClause_68 : decode cX10_readClause 68 = .ok (.aload_n 0, 1) := by decide +kernel
theorem dX10_readClause_69 : decode cX10_readClause 69 = .ok (.invokevirtual 79, 3) := by decide +kernel
theorem dX10_readClause_72 : decode cX10_readClause 72 = .ok (.istore 4, 2) := by decide +kernel
theorem dX10_readClause_74 : decode cX10_readClause 74 = .ok (.iload 4, 2) := by decide +kernel
theorem dX10_readClause_76 : decode cX10_readClause 76 = .ok (.iload_n 1, 1) := by decide +kernel
theorem dX10_readClause_77 : decode cX10_readClause 77 = .ok (.bipush 7, 2) := by decide +kernel
theorem dX10_readClause_79 : decode cX10_readClause 79 = .ok (.if_icmp .ne 8, 3) := by decide +kernel
theorem dX10_readClause_82 : decode cX10_readClause 82 = .ok (.bipush 10, 2) := by decide +kernel
theorem dX10_readClause_84 : decode cX10_readClause 84 = .ok (.goto 4, 3) := by decide +kernel
theorem dX10_readClause_87 : decode cX10_readClause 87 = .ok (.iconst 0, 1) := by decide +kernel
theorem dX10_readClause_88 : decode cX10_readClause 88 = .ok (.if_icmp .lt 9, 3) := by decide +kernel
theorem dX10_readClause_91 : decode cX10_readClause 91 = .ok (.iload 4, 2) := by decide +kernel
theorem dX10_readClause_93 : decode cX10_readClause 93 = .ok (.iload_n 3, 1) := by decide +kernel
theorem dX10_readClause_94 : decode cX10_readClause 94 = .ok (.if_icmp .le 5, 3) := by decide +kernel
theorem dX10_readClause_97 : decode cX10_readClause 97 = .ok (.iconst 0, 1) := by decide +kernel
theorem dX10_readClause_98 : decode cX10_readClause 98 = .ok (.ireturn, 1) := by decide +kernel
theorem dX10_readClause_99 : decode cX10_readClause 99 = .ok (.aload_n 0, 1) := by decide +kernel
theorem dX10_readClause_100 : decode cX10_readClause 100 = .ok (.getfield 18, 3) := by decide +kernel
theorem dX10_readClause_103 : decode cX10_readClause 103 = .ok (.aload_n 0, 1) := by decide +kernel
theorem dX10_readClause_104 : decode cX10_readClause 104 = .ok (.getfield 29, 3) := by decide +kernel
theorem dX10_readClause_107 : decode cX10_readClause 107 = .ok (.iconst 4, 1) := by decide +kernel
theorem dX10_readClause_108 : decode cX10_readClause 108 = .ok (.imul, 1) := by decide +kernel
theorem dX10_readClause_109 : decode cX10_readClause 109 = .ok (.iload_n 2, 1) := by decide +kernel
theorem dX10_readClause_110 : decode cX10_readClause 110 = .ok (.iadd, 1) := by decide +kernel
theorem dX10_readClause_111 : decode cX10_readClause 111 = .ok (.iload 4, 2) := by decide +kernel
theorem dX10_readClause_113 : decode cX10_readClause 113 = .ok (.iastore, 1) := by decide +kernel
theorem dX10_readClause_114 : decode cX10_readClause 114 = .ok (.iinc 2 1, 3) := by decide +kernel
theorem dX10_readClause_117 : decode cX10_readClause 117 = .ok (.goto (-76), 3) := by decide +kernel
theorem dX10_readClause_120 : decode cX10_readClause 120 = .ok (.aload_n 0, 1) := by decide +kernel
theorem dX10_readClause_121 : decode cX10_readClause 121 = .ok (.dup, 1) := by decide +kernel
theorem dX10_readClause_122 : decode cX10_readClause 122 = .ok (.getfield 29, 3) := by decide +kernel
theorem dX10_readClause_125 : decode cX10_readClause 125 = .ok (.iconst 1, 1) := by decide +kernel
theorem dX10_readClause_126 : decode cX10_readClause 126 = .ok (.iadd, 1) := by decide +kernel
theorem dX10_readClause_127 : decode cX10_readClause 127 = .ok (.putfield 29, 3) := by decide +kernel
theorem dX10_readClause_130 : decode cX10_readClause 130 = .ok (.iconst 1, 1) := by decide +kernel
theorem dX10_readClause_131 : decode cX10_readClause 131 = .ok (.ireturn, 1) := by decide +kernel
theorem dX10_takesPlace_0 : decode cX10_takesPlace 0 = .ok (.iload_n 1, 1) := by decide +kernel
theorem dX10_takesPlace_1 : decode cX10_takesPlace 1 = .ok (.tableswitch 114 0 7 #[47, 114, 114, 114, 114, 66, 89, 112], 47) := by decide +kernel
theorem dX10_takesPlace_48 : decode cX10_takesPlace 48 = .ok (.aload_n 0, 1) := by decide +kernel
theorem dX10_takesPlace_49 : decode cX10_takesPlace 49 = .ok (.bipush 7, 2) := by decide +kernel
theorem dX10_takesPlace_51 : decode cX10_takesPlace 51 = .ok (.putfield 40, 3) := by decide +kernel
theorem dX10_takesPlace_54 : decode cX10_takesPlace 54 = .ok (.aload_n 0, 1) := by decide +kernel
theorem dX10_takesPlace_55 : decode cX10_takesPlace 55 = .ok (.bipush 7, 2) := by decide +kernel
theorem dX10_takesPlace_57 : decode cX10_takesPlace 57 = .ok (.putfield 46, 3) := by decide +kernel
theorem dX10_takesPlace_60 : decode cX10_takesPlace 60 = .ok (.aload_n 0, 1) := by decide +kernel
theorem dX10_takesPlace_61 : decode cX10_takesPlace 61 = .ok (.iconst 3, 1) := by decide +kernel
theorem dX10_takesPlace_62 : decode cX10_takesPlace 62 = .ok (.putfield 52, 3) := by decide +kernel
theorem dX10_takesPlace_65 : decode cX10_takesPlace 65 = .ok (.iconst 1, 1) := by decide +kernel
theorem dX10_takesPlace_66 : decode cX10_takesPlace 66 = .ok (.ireturn, 1) := by decide +kernel
theorem dX10_takesPlace_67 : decode cX10_takesPlace 67 = .ok (.aload_n 0, 1) := by decide +kernel
theorem dX10_takesPlace_68 : decode cX10_takesPlace 68 = .ok (.dup, 1) := by decide +kernel
theorem dX10_takesPlace_69 : decode cX10_takesPlace 69 = .ok (.getfield 46, 3) := by decide +kernel
theorem dX10_takesPlace_72 : decode cX10_takesPlace 72 = .ok (.iconst 1, 1) := by decide +kernel
theorem dX10_takesPlace_73 : decode cX10_takesPlace 73 = .ok (.isub, 1) := by decide +kernel
theorem dX10_takesPlace_74 : decode cX10_takesPlace 74 = .ok (.putfield 46, 3) := by decide +kernel
theorem dX10_takesPlace_77 : decode cX10_takesPlace 77 = .ok (.aload_n 0, 1) := by decide +kernel
theorem dX10_takesPlace_78 : decode cX10_takesPlace 78 = .ok (.getfield 46, 3) := by decide +kernel
theorem dX10_takesPlace_81 : decode cX10_takesPlace 81 = .ok (.ifCond .lt 7, 3) := by decide +kernel
theorem dX10_takesPlace_84 : decode cX10_takesPlace 84 = .ok (.iconst 1, 1) := by decide +kernel
theorem dX10_takesPlace_85 : decode cX10_takesPlace 85 = .ok (.goto 4, 3) := by decide +kernel
theorem dX10_takesPlace_88 : decode cX10_takesPlace 88 = .ok (.iconst 0, 1) := by decide +kernel
theorem dX10_takesPlace_89 : decode cX10_takesPlace 89 = .ok (.ireturn, 1) := by decide +kernel
theorem dX10_takesPlace_90 : decode cX10_takesPlace 90 = .ok (.aload_n 0, 1) := by decide +kernel
theorem dX10_takesPlace_91 : decode cX10_takesPlace 91 = .ok (.dup, 1) := by decide +kernel
theorem dX10_takesPlace_92 : decode cX10_takesPlace 92 = .ok (.getfield 52, 3) := by decide +kernel
theorem dX10_takesPlace_95 : decode cX10_takesPlace 95 = .ok (.iconst 1, 1) := by decide +kernel
theorem dX10_takesPlace_96 : decode cX10_takesPlace 96 = .ok (.isub, 1) := by decide +kernel
theorem dX10_takesPlace_97 : decode cX10_takesPlace 97 = .ok (.putfield 52, 3) := by decide +kernel
theorem dX10_takesPlace_100 : decode cX10_takesPlace 100 = .ok (.aload_n 0, 1) := by decide +kernel
theorem dX10_takesPlace_101 : decode cX10_takesPlace 101 = .ok (.getfield 52, 3) := by decide +kernel
theorem dX10_takesPlace_104 : decode cX10_takesPlace 104 = .ok (.ifCond .lt 7, 3) := by decide +kernel
theorem dX10_takesPlace_107 : decode cX10_takesPlace 107 = .ok (.iconst 1, 1) := by decide +kernel
theorem dX10_takesPlace_108 : decode cX10_takesPlace 108 = .ok (.goto 4, 3) := by decide +kernel
theorem dX10_takesPlace_111 : decode cX10_takesPlace 111 = .ok (.iconst 0, 1) := by decide +kernel
theorem dX10_takesPlace_112 : decode cX10_takesPlace 112 = .ok (.ireturn, 1) := by decide +kernel
theorem dX10_takesPlace_113 : decode cX10_takesPlace 113 = .ok (.iconst 1, 1) := by decide +kernel
theorem dX10_takesPlace_114 : decode cX10_takesPlace 114 = .ok (.ireturn, 1) := by decide +kernel
theorem dX10_takesPlace_115 : decode cX10_takesPlace 115 = .ok (.aload_n 0, 1) := by decide +kernel
theorem dX10_takesPlace_116 : decode cX10_takesPlace 116 = .ok (.dup, 1) := by decide +kernel
theorem dX10_takesPlace_117 : decode cX10_takesPlace 117 = .ok (.getfield 40, 3) := by decide +kernel
theorem dX10_takesPlace_120 : decode cX10_takesPlace 120 = .ok (.iconst 1, 1) := by decide +kernel
theorem dX10_takesPlace_121 : decode cX10_takesPlace 121 = .ok (.isub, 1) := by decide +kernel
theorem dX10_takesPlace_122 : decode cX10_takesPlace 122 = .ok (.putfield 40, 3) := by decide +kernel
theorem dX10_takesPlace_125 : decode cX10_takesPlace 125 = .ok (.aload_n 0, 1) := by decide +kernel
theorem dX10_takesPlace_126 : decode cX10_takesPlace 126 = .ok (.getfield 40, 3) := by decide +kernel
theorem dX10_takesPlace_129 : decode cX10_takesPlace 129 = .ok (.ifCond .lt 7, 3) := by decide +kernel
theorem dX10_takesPlace_132 : decode cX10_takesPlace 132 = .ok (.iconst 1, 1) := by decide +kernel
theorem dX10_takesPlace_133 : decode cX10_takesPlace 133 = .ok (.goto 4, 3) := by decide +kernel
theorem dX10_takesPlace_136 : decode cX10_takesPlace 136 = .ok (.iconst 0, 1) := by decide +kernel
theorem dX10_takesPlace_137 : decode cX10_takesPlace 137 = .ok (.ireturn, 1) := by decide +kernel
set_option maxRecDepth 20000 in
theorem ggX10_nextToken_X10_letterAt : GoodIn wsX10_nextToken wsX10_letterAt := goodIn_r _ [8, 3, 9, 13, 14, 15, 16, 17, 18, 19, 20, 21, 22] rfl (by decide +kernel)
set_option maxRecDepth 20000 in
theorem gX10_nextToken_X10_letterAt : GoodIn wsX10_nextToken (wsV RX10 64 RX10 yX10_letterAt wsX10_letterAt) := goodIn_app (goodIn_of _ (by decide +kernel)) ggX10_nextToken_X10_letterAt
set_option maxRecDepth 20000 in
theorem ggX10_nextToken_X10_sortOf : GoodIn wsX10_nextToken wsX10_sortOf := goodIn_r _ [12] rfl (by decide +kernel)
set_option maxRecDepth 20000 in
theorem gX10_nextToken_X10_sortOf : GoodIn wsX10_nextToken (va_wsS RX10 82 yX10_sortOf wsX10_sortOf) := goodIn_app (goodIn_of _ (by decide +kernel)) ggX10_nextToken_X10_sortOf
theorem dX10_nextToken_0 : decode cX10_nextToken 0 = .ok (.aload_n 0, 1) := by decide +kernel
theorem dX10_nextToken_1 : decode cX10_nextToken 1 = .ok (.aload_n 0, 1) := by decide +kernel
theorem dX10_nextToken_2 : decode cX10_nextToken 2 = .ok (.getfield 32, 3) := by decide +kernel
theorem dX10_nextToken_5 : decode cX10_nextToken 5 = .ok (.putfield 61, 3) := by decide +kernel
theorem dX10_nextToken_8 : decode cX10_nextToken 8 = .ok (.aload_n 0, 1) := by decide +kernel
theorem dX10_nextToken_9 : decode cX10_nextToken 9 = .ok (.getfield 61, 3) := by decide +kernel
theorem dX10_nextToken_12 : decode cX10_nextToken 12 = .ok (.aload_n 0, 1) := by decide +kernel
theorem dX10_nextToken_13 : decode cX10_nextToken 13 = .ok (.getfield 21, 3) := by decide +kernel
theorem dX10_nextToken_16 : decode cX10_nextToken 16 = .ok (.if_icmp .ge 29, 3) := by decide +kernel
theorem dX10_nextToken_19 : decode cX10_nextToken 19 = .ok (.aload_n 0, 1) := by decide +kernel
theorem dX10_nextToken_20 : decode cX10_nextToken 20 = .ok (.aload_n 0, 1) := by decide +kernel
theorem dX10_nextToken_21 : decode cX10_nextToken 21 = .ok (.getfield 61, 3) := by decide +kernel
theorem dX10_nextToken_24 : decode cX10_nextToken 24 = .ok (.invokevirtual 64, 3) := by decide +kernel
theorem dX10_nextToken_27 : decode cX10_nextToken 27 = .ok (.bipush 32, 2) := by decide +kernel
theorem dX10_nextToken_29 : decode cX10_nextToken 29 = .ok (.if_icmp .ne 16, 3) := by decide +kernel
theorem dX10_nextToken_32 : decode cX10_nextToken 32 = .ok (.aload_n 0, 1) := by decide +kernel
theorem dX10_nextToken_33 : decode cX10_nextToken 33 = .ok (.dup, 1) := by decide +kernel
theorem dX10_nextToken_34 : decode cX10_nextToken 34 = .ok (.getfield 61, 3) := by decide +kernel
theorem dX10_nextToken_37 : decode cX10_nextToken 37 = .ok (.iconst 1, 1) := by decide +kernel
theorem dX10_nextToken_38 : decode cX10_nextToken 38 = .ok (.iadd, 1) := by decide +kernel
theorem dX10_nextToken_39 : decode cX10_nextToken 39 = .ok (.putfield 61, 3) := by decide +kernel
theorem dX10_nextToken_42 : decode cX10_nextToken 42 = .ok (.goto (-34), 3) := by decide +kernel
theorem dX10_nextToken_45 : decode cX10_nextToken 45 = .ok (.aload_n 0, 1) := by decide +kernel
theorem dX10_nextToken_46 : decode cX10_nextToken 46 = .ok (.aload_n 0, 1) := by decide +kernel
theorem dX10_nextToken_47 : decode cX10_nextToken 47 = .ok (.getfield 61, 3) := by decide +kernel
theorem dX10_nextToken_50 : decode cX10_nextToken 50 = .ok (.putfield 32, 3) := by decide +kernel
theorem dX10_nextToken_53 : decode cX10_nextToken 53 = .ok (.aload_n 0, 1) := by decide +kernel
theorem dX10_nextToken_54 : decode cX10_nextToken 54 = .ok (.getfield 61, 3) := by decide +kernel
theorem dX10_nextToken_57 : decode cX10_nextToken 57 = .ok (.aload_n 0, 1) := by decide +kernel
theorem dX10_nextToken_58 : decode cX10_nextToken 58 = .ok (.getfield 21, 3) := by decide +kernel
theorem dX10_nextToken_61 : decode cX10_nextToken 61 = .ok (.if_icmp .ge 69, 3) := by decide +kernel
theorem dX10_nextToken_64 : decode cX10_nextToken 64 = .ok (.aload_n 0, 1) := by decide +kernel
theorem dX10_nextToken_65 : decode cX10_nextToken 65 = .ok (.aload_n 0, 1) := by decide +kernel
