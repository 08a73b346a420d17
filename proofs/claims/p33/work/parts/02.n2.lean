theorem dX10_nextToken_66 : decode cX10_nextToken 66 = .ok (.getfield 61, 3) := by decide +kernel
theorem dX10_nextToken_69 : decode cX10_nextToken 69 = .ok (.invokevirtual 64, 3) := by decide +kernel
theorem dX10_nextToken_72 : decode cX10_nextToken 72 = .ok (.invokestatic 82, 3) := by decide +kernel
theorem dX10_nextToken_75 : decode cX10_nextToken 75 = .ok (.istore_n 1, 1) := by decide +kernel
theorem dX10_nextToken_76 : decode cX10_nextToken 76 = .ok (.aload_n 0, 1) := by decide +kernel
theorem dX10_nextToken_77 : decode cX10_nextToken 77 = .ok (.dup, 1) := by decide +kernel
theorem dX10_nextToken_78 : decode cX10_nextToken 78 = .ok (.getfield 32, 3) := by decide +kernel
theorem dX10_nextToken_81 : decode cX10_nextToken 81 = .ok (.iconst 1, 1) := by decide +kernel
theorem dX10_nextToken_82 : decode cX10_nextToken 82 = .ok (.iadd, 1) := by decide +kernel
theorem dX10_nextToken_83 : decode cX10_nextToken 83 = .ok (.putfield 32, 3) := by decide +kernel
theorem dX10_nextToken_86 : decode cX10_nextToken 86 = .ok (.iload_n 1, 1) := by decide +kernel
theorem dX10_nextToken_87 : decode cX10_nextToken 87 = .ok (.iconst 2, 1) := by decide +kernel
theorem dX10_nextToken_88 : decode cX10_nextToken 88 = .ok (.if_icmp .eq 42, 3) := by decide +kernel
theorem dX10_nextToken_91 : decode cX10_nextToken 91 = .ok (.aload_n 0, 1) := by decide +kernel
theorem dX10_nextToken_92 : decode cX10_nextToken 92 = .ok (.getfield 32, 3) := by decide +kernel
theorem dX10_nextToken_95 : decode cX10_nextToken 95 = .ok (.aload_n 0, 1) := by decide +kernel
theorem dX10_nextToken_96 : decode cX10_nextToken 96 = .ok (.getfield 21, 3) := by decide +kernel
theorem dX10_nextToken_99 : decode cX10_nextToken 99 = .ok (.if_icmp .ge 31, 3) := by decide +kernel
theorem dX10_nextToken_102 : decode cX10_nextToken 102 = .ok (.aload_n 0, 1) := by decide +kernel
theorem dX10_nextToken_103 : decode cX10_nextToken 103 = .ok (.aload_n 0, 1) := by decide +kernel
theorem dX10_nextToken_104 : decode cX10_nextToken 104 = .ok (.getfield 32, 3) := by decide +kernel
theorem dX10_nextToken_107 : decode cX10_nextToken 107 = .ok (.invokevirtual 64, 3) := by decide +kernel
theorem dX10_nextToken_110 : decode cX10_nextToken 110 = .ok (.invokestatic 82, 3) := by decide +kernel
theorem dX10_nextToken_113 : decode cX10_nextToken 113 = .ok (.iload_n 1, 1) := by decide +kernel
theorem dX10_nextToken_114 : decode cX10_nextToken 114 = .ok (.if_icmp .ne 16, 3) := by decide +kernel
theorem dX10_nextToken_117 : decode cX10_nextToken 117 = .ok (.aload_n 0, 1) := by decide +kernel
theorem dX10_nextToken_118 : decode cX10_nextToken 118 = .ok (.dup, 1) := by decide +kernel
theorem dX10_nextToken_119 : decode cX10_nextToken 119 = .ok (.getfield 32, 3) := by decide +kernel
theorem dX10_nextToken_122 : decode cX10_nextToken 122 = .ok (.iconst 1, 1) := by decide +kernel
theorem dX10_nextToken_123 : decode cX10_nextToken 123 = .ok (.iadd, 1) := by decide +kernel
theorem dX10_nextToken_124 : decode cX10_nextToken 124 = .ok (.putfield 32, 3) := by decide +kernel
theorem dX10_nextToken_127 : decode cX10_nextToken 127 = .ok (.goto (-41), 3) := by decide +kernel
theorem dX10_nextToken_130 : decode cX10_nextToken 130 = .ok (.return_, 1) := by decide +kernel
theorem dX10_letterAt_0 : decode cX10_letterAt 0 = .ok (.iload_n 1, 1) := by decide +kernel
theorem dX10_letterAt_1 : decode cX10_letterAt 1 = .ok (.ifCond .lt 27, 3) := by decide +kernel
theorem dX10_letterAt_4 : decode cX10_letterAt 4 = .ok (.iload_n 1, 1) := by decide +kernel
theorem dX10_letterAt_5 : decode cX10_letterAt 5 = .ok (.aload_n 0, 1) := by decide +kernel
theorem dX10_letterAt_6 : decode cX10_letterAt 6 = .ok (.getfield 21, 3) := by decide +kernel
theorem dX10_letterAt_9 : decode cX10_letterAt 9 = .ok (.if_icmp .ge 19, 3) := by decide +kernel
theorem dX10_letterAt_12 : decode cX10_letterAt 12 = .ok (.iload_n 1, 1) := by decide +kernel
theorem dX10_letterAt_13 : decode cX10_letterAt 13 = .ok (.sipush 200, 3) := by decide +kernel
theorem dX10_letterAt_16 : decode cX10_letterAt 16 = .ok (.if_icmp .ge 12, 3) := by decide +kernel
theorem dX10_letterAt_19 : decode cX10_letterAt 19 = .ok (.aload_n 0, 1) := by decide +kernel
theorem dX10_letterAt_20 : decode cX10_letterAt 20 = .ok (.getfield 11, 3) := by decide +kernel
theorem dX10_letterAt_23 : decode cX10_letterAt 23 = .ok (.iload_n 1, 1) := by decide +kernel
theorem dX10_letterAt_24 : decode cX10_letterAt 24 = .ok (.iaload, 1) := by decide +kernel
theorem dX10_letterAt_25 : decode cX10_letterAt 25 = .ok (.goto 4, 3) := by decide +kernel
theorem dX10_letterAt_28 : decode cX10_letterAt 28 = .ok (.iconst (-1), 1) := by decide +kernel
theorem dX10_letterAt_29 : decode cX10_letterAt 29 = .ok (.ireturn, 1) := by decide +kernel
theorem dX10_sortOf_0 : decode cX10_sortOf 0 = .ok (.iload_n 0, 1) := by decide +kernel
theorem dX10_sortOf_1 : decode cX10_sortOf 1 = .ok (.bipush 97, 2) := by decide +kernel
theorem dX10_sortOf_3 : decode cX10_sortOf 3 = .ok (.if_icmp .lt 11, 3) := by decide +kernel
theorem dX10_sortOf_6 : decode cX10_sortOf 6 = .ok (.iload_n 0, 1) := by decide +kernel
theorem dX10_sortOf_7 : decode cX10_sortOf 7 = .ok (.bipush 122, 2) := by decide +kernel
theorem dX10_sortOf_9 : decode cX10_sortOf 9 = .ok (.if_icmp .gt 5, 3) := by decide +kernel
theorem dX10_sortOf_12 : decode cX10_sortOf 12 = .ok (.iconst 0, 1) := by decide +kernel
theorem dX10_sortOf_13 : decode cX10_sortOf 13 = .ok (.ireturn, 1) := by decide +kernel
theorem dX10_sortOf_14 : decode cX10_sortOf 14 = .ok (.iload_n 0, 1) := by decide +kernel
theorem dX10_sortOf_15 : decode cX10_sortOf 15 = .ok (.bipush 48, 2) := by decide +kernel
theorem dX10_sortOf_17 : decode cX10_sortOf 17 = .ok (.if_icmp .lt 13, 3) := by decide +kernel
theorem dX10_sortOf_20 : decode cX10_sortOf 20 = .ok (.iload_n 0, 1) := by decide +kernel
theorem dX10_sortOf_21 : decode cX10_sortOf 21 = .ok (.bipush 57, 2) := by decide +kernel
theorem dX10_sortOf_23 : decode cX10_sortOf 23 = .ok (.if_icmp .gt 7, 3) := by decide +kernel
theorem dX10_sortOf_26 : decode cX10_sortOf 26 = .ok (.iconst 1, 1) := by decide +kernel
theorem dX10_sortOf_27 : decode cX10_sortOf 27 = .ok (.goto 4, 3) := by decide +kernel
theorem dX10_sortOf_30 : decode cX10_sortOf 30 = .ok (.iconst 2, 1) := by decide +kernel
theorem dX10_sortOf_31 : decode cX10_sortOf 31 = .ok (.ireturn, 1) := by decide +kernel
set_option maxRecDepth 20000 in
theorem ggX10_wordHere_X10_spelled : GoodIn wsX10_wordHere wsX10_spelled := goodIn_r _ [4] rfl (by decide +kernel)
set_option maxRecDepth 20000 in
theorem gX10_wordHere_X10_spelled : GoodIn wsX10_wordHere (va_wsS RX10 85 yX10_spelled wsX10_spelled) := goodIn_app (goodIn_of _ (by decide +kernel)) ggX10_wordHere_X10_spelled
set_option maxRecDepth 20000 in
theorem ggX10_wordHere_X10_isHere : GoodIn wsX10_wordHere wsX10_isHere := goodIn_r _ [8, 9, 10, 11, 12, 13, 14, 15, 16, 17, 18, 19, 20, 21, 22, 23, 24, 25, 3, 26, 27, 28, 29, 30, 31, 32, 33, 34, 35, 36, 37, 38, 39, 40, 41, 42, 43, 44, 45, 46, 47, 48, 49, 50, 51, 52, 53, 54, 55, 56, 57, 58, 59, 60, 61, 62, 63, 64, 65, 66, 67, 68, 69, 70, 71, 72, 73, 74, 75] rfl (by decide +kernel)
set_option maxRecDepth 20000 in
theorem gX10_wordHere_X10_isHere : GoodIn wsX10_wordHere (wsV RX10 89 RX10 yX10_isHere wsX10_isHere) := goodIn_app (goodIn_of _ (by decide +kernel)) ggX10_wordHere_X10_isHere
theorem dX10_wordHere_0 : decode cX10_wordHere 0 = .ok (.iconst 0, 1) := by decide +kernel
theorem dX10_wordHere_1 : decode cX10_wordHere 1 = .ok (.istore_n 1, 1) := by decide +kernel
theorem dX10_wordHere_2 : decode cX10_wordHere 2 = .ok (.iload_n 1, 1) := by decide +kernel
theorem dX10_wordHere_3 : decode cX10_wordHere 3 = .ok (.bipush 8, 2) := by decide +kernel
theorem dX10_wordHere_5 : decode cX10_wordHere 5 = .ok (.if_icmp .ge 22, 3) := by decide +kernel
theorem dX10_wordHere_8 : decode cX10_wordHere 8 = .ok (.aload_n 0, 1) := by decide +kernel
theorem dX10_wordHere_9 : decode cX10_wordHere 9 = .ok (.iload_n 1, 1) := by decide +kernel
theorem dX10_wordHere_10 : decode cX10_wordHere 10 = .ok (.invokestatic 85, 3) := by decide +kernel
theorem dX10_wordHere_13 : decode cX10_wordHere 13 = .ok (.invokevirtual 89, 3) := by decide +kernel
theorem dX10_wordHere_16 : decode cX10_wordHere 16 = .ok (.ifCond .eq 5, 3) := by decide +kernel
theorem dX10_wordHere_19 : decode cX10_wordHere 19 = .ok (.iload_n 1, 1) := by decide +kernel
theorem dX10_wordHere_20 : decode cX10_wordHere 20 = .ok (.ireturn, 1) := by decide +kernel
theorem dX10_wordHere_21 : decode cX10_wordHere 21 = .ok (.iinc 1 1, 3) := by decide +kernel
theorem dX10_wordHere_24 : decode cX10_wordHere 24 = .ok (.goto (-22), 3) := by decide +kernel
theorem dX10_wordHere_27 : decode cX10_wordHere 27 = .ok (.iconst (-1), 1) := by decide +kernel
theorem dX10_wordHere_28 : decode cX10_wordHere 28 = .ok (.ireturn, 1) := by decide +kernel
set_option maxRecDepth 20000 in
theorem ggX10_isHere_J0_length_8abf5 : GoodIn wsX10_isHere wsJ0_length_8abf5 := goodIn_r _ [7, 8, 9, 10, 11, 6, 12, 13, 14] rfl (by decide +kernel)
set_option maxRecDepth 20000 in
theorem gX10_isHere_J0_length_8abf5 : GoodIn wsX10_isHere (wsV RX10 93 RJ0 yJ0_length_8abf5 wsJ0_length_8abf5) := goodIn_app (goodIn_of _ (by decide +kernel)) ggX10_isHere_J0_length_8abf5
set_option maxRecDepth 20000 in
theorem ggX10_isHere_X10_letterAt : GoodIn wsX10_isHere wsX10_letterAt := goodIn_r _ [19, 20, 21, 59, 60, 61, 62, 63, 64, 65, 66, 67, 68] rfl (by decide +kernel)
set_option maxRecDepth 20000 in
theorem gX10_isHere_X10_letterAt : GoodIn wsX10_isHere (wsV RX10 64 RX10 yX10_letterAt wsX10_letterAt) := goodIn_app (goodIn_of _ (by decide +kernel)) ggX10_isHere_X10_letterAt
set_option maxRecDepth 20000 in
theorem ggX10_isHere_J0_charAt_5068e : GoodIn wsX10_isHere wsJ0_charAt_5068e := goodIn_r _ [25, 8, 26, 27, 28, 6, 29, 13, 14, 30, 31, 32, 33, 34, 35, 36, 37, 38, 39, 40, 41, 42, 43, 44, 45, 46, 47, 48, 49, 50, 51, 52, 53, 54, 55, 56, 57, 58] rfl (by decide +kernel)
set_option maxRecDepth 20000 in
theorem gX10_isHere_J0_charAt_5068e : GoodIn wsX10_isHere (wsV RX10 97 RJ0 yJ0_charAt_5068e wsJ0_charAt_5068e) := goodIn_app (goodIn_of _ (by decide +kernel)) ggX10_isHere_J0_charAt_5068e
theorem dX10_isHere_0 : decode cX10_isHere 0 = .ok (.aload_n 0, 1) := by decide +kernel
theorem dX10_isHere_1 : decode cX10_isHere 1 = .ok (.getfield 32, 3) := by decide +kernel
theorem dX10_isHere_4 : decode cX10_isHere 4 = .ok (.aload_n 0, 1) := by decide +kernel
theorem dX10_isHere_5 : decode cX10_isHere 5 = .ok (.getfield 61, 3) := by decide +kernel
theorem dX10_isHere_8 : decode cX10_isHere 8 = .ok (.isub, 1) := by decide +kernel
theorem dX10_isHere_9 : decode cX10_isHere 9 = .ok (.aload_n 1, 1) := by decide +kernel
theorem dX10_isHere_10 : decode cX10_isHere 10 = .ok (.invokevirtual 93, 3) := by decide +kernel
theorem dX10_isHere_13 : decode cX10_isHere 13 = .ok (.if_icmp .eq 5, 3) := by decide +kernel
theorem dX10_isHere_16 : decode cX10_isHere 16 = .ok (.iconst 0, 1) := by decide +kernel
theorem dX10_isHere_17 : decode cX10_isHere 17 = .ok (.ireturn, 1) := by decide +kernel
theorem dX10_isHere_18 : decode cX10_isHere 18 = .ok (.iconst 0, 1) := by decide +kernel
theorem dX10_isHere_19 : decode cX10_isHere 19 = .ok (.istore_n 2, 1) := by decide +kernel
theorem dX10_isHere_20 : decode cX10_isHere 20 = .ok (.iload_n 2, 1) := by decide +kernel
theorem dX10_isHere_21 : decode cX10_isHere 21 = .ok (.aload_n 1, 1) := by decide +kernel
theorem dX10_isHere_22 : decode cX10_isHere 22 = .ok (.invokevirtual 93, 3) := by decide +kernel
theorem dX10_isHere_25 : decode cX10_isHere 25 = .ok (.if_icmp .ge 29, 3) := by decide +kernel
theorem dX10_isHere_28 : decode cX10_isHere 28 = .ok (.aload_n 0, 1) := by decide +kernel
theorem dX10_isHere_29 : decode cX10_isHere 29 = .ok (.aload_n 0, 1) := by decide +kernel
theorem dX10_isHere_30 : decode cX10_isHere 30 = .ok (.getfield 61, 3) := by decide +kernel
theorem dX10_isHere_33 : decode cX10_isHere 33 = .ok (.iload_n 2, 1) := by decide +kernel
theorem dX10_isHere_34 : decode cX10_isHere 34 = .ok (.iadd, 1) := by decide +kernel
theorem dX10_isHere_35 : decode cX10_isHere 35 = .ok (.invokevirtual 64, 3) := by decide +kernel
theorem dX10_isHere_38 : decode cX10_isHere 38 = .ok (.aload_n 1, 1) := by decide +kernel
theorem dX10_isHere_39 : decode cX10_isHere 39 = .ok (.iload_n 2, 1) := by decide +kernel
theorem dX10_isHere_40 : decode cX10_isHere 40 = .ok (.invokevirtual 97, 3) := by decide +kernel
theorem dX10_isHere_43 : decode cX10_isHere 43 = .ok (.if_icmp .eq 5, 3) := by decide +kernel
theorem dX10_isHere_46 : decode cX10_isHere 46 = .ok (.iconst 0, 1) := by decide +kernel
theorem dX10_isHere_47 : decode cX10_isHere 47 = .ok (.ireturn, 1) := by decide +kernel
theorem dX10_isHere_48 : decode cX10_isHere 48 = .ok (.iinc 2 1, 3) := by decide +kernel
theorem dX10_isHere_51 : decode cX10_isHere 51 = .ok (.goto (-31), 3) := by decide +kernel
theorem dX10_isHere_54 : decode cX10_isHere 54 = .ok (.iconst 1, 1) := by decide +kernel
theorem dX10_isHere_55 : decode cX10_isHere 55 = .ok (.ireturn, 1) := by decide +kernel
theorem dX10_spelled_0 : decode cX10_spelled 0 = .ok (.iload_n 0, 1) := by decide +kernel
theorem dX10_spelled_1 : decode cX10_spelled 1 = .ok (.tableswitch 64 0 6 #[43, 46, 49, 52, 55, 58, 61], 43) := by decide +kernel
theorem dX10_spelled_44 : decode cX10_spelled 44 = .ok (.ldc 101, 2) := by decide +kernel
theorem dX10_spelled_46 : decode cX10_spelled 46 = .ok (.areturn, 1) := by decide +kernel
theorem dX10_spelled_47 : decode cX10_spelled 47 = .ok (.ldc 103, 2) := by decide +kernel
theorem dX10_spelled_49 : decode cX10_spelled 49 = .ok (.areturn, 1) := by decide +kernel
theorem dX10_spelled_50 : decode cX10_spelled 50 = .ok (.ldc 105, 2) := by decide +kernel
theorem dX10_spelled_52 : decode cX10_spelled 52 = .ok (.areturn, 1) := by decide +kernel
theorem dX10_spelled_53 : decode cX10_spelled 53 = .ok (.ldc 107, 2) := by decide +kernel
theorem dX10_spelled_55 : decode cX10_spelled 55 = .ok (.areturn, 1) := by decide +kernel
theorem dX10_spelled_56 : decode cX10_spelled 56 = .ok (.ldc 109, 2) := by decide +kernel
theorem dX10_spelled_58 : decode cX10_spelled 58 = .ok (.areturn, 1) := by decide +kernel
theorem dX10_spelled_59 : decode cX10_spelled 59 = .ok (.ldc 111, 2) := by decide +kernel
theorem dX10_spelled_61 : decode cX10_spelled 61 = .ok (.areturn, 1) := by decide +kernel
theorem dX10_spelled_62 : decode cX10_spelled 62 = .ok (.ldc 113, 2) := by decide +kernel
theorem dX10_spelled_64 : decode cX10_spelled 64 = .ok (.areturn, 1) := by decide +kernel
theorem dX10_spelled_65 : decode cX10_spelled 65 = .ok (.ldc 115, 2) := by decide +kernel
theorem dX10_spelled_67 : decode cX10_spelled 67 = .ok (.areturn, 1) := by decide +kernel
set_option maxRecDepth 20000 in
theorem ggX10_numberHere_X10_letterAt : GoodIn wsX10_numberHere wsX10_letterAt := goodIn_r _ [8, 2, 9, 13, 14, 15, 16, 17, 18, 19, 20, 21, 22] rfl (by decide +kernel)
set_option maxRecDepth 20000 in
theorem gX10_numberHere_X10_letterAt : GoodIn wsX10_numberHere (wsV RX10 64 RX10 yX10_letterAt wsX10_letterAt) := goodIn_app (goodIn_of _ (by decide +kernel)) ggX10_numberHere_X10_letterAt
set_option maxRecDepth 20000 in
theorem ggX10_numberHere_X10_sortOf : GoodIn wsX10_numberHere wsX10_sortOf := goodIn_r _ [12] rfl (by decide +kernel)
set_option maxRecDepth 20000 in
theorem gX10_numberHere_X10_sortOf : GoodIn wsX10_numberHere (va_wsS RX10 82 yX10_sortOf wsX10_sortOf) := goodIn_app (goodIn_of _ (by decide +kernel)) ggX10_numberHere_X10_sortOf
theorem dX10_numberHere_0 : decode cX10_numberHere 0 = .ok (.aload_n 0, 1) := by decide +kernel
theorem dX10_numberHere_1 : decode cX10_numberHere 1 = .ok (.getfield 61, 3) := by decide +kernel
theorem dX10_numberHere_4 : decode cX10_numberHere 4 = .ok (.aload_n 0, 1) := by decide +kernel
theorem dX10_numberHere_5 : decode cX10_numberHere 5 = .ok (.getfield 21, 3) := by decide +kernel
theorem dX10_numberHere_8 : decode cX10_numberHere 8 = .ok (.if_icmp .ge 31, 3) := by decide +kernel
theorem dX10_numberHere_11 : decode cX10_numberHere 11 = .ok (.aload_n 0, 1) := by decide +kernel
theorem dX10_numberHere_12 : decode cX10_numberHere 12 = .ok (.getfield 32, 3) := by decide +kernel
theorem dX10_numberHere_15 : decode cX10_numberHere 15 = .ok (.aload_n 0, 1) := by decide +kernel
theorem dX10_numberHere_16 : decode cX10_numberHere 16 = .ok (.getfield 61, 3) := by decide +kernel
theorem dX10_numberHere_19 : decode cX10_numberHere 19 = .ok (.isub, 1) := by decide +kernel
theorem dX10_numberHere_20 : decode cX10_numberHere 20 = .ok (.iconst 3, 1) := by decide +kernel
theorem dX10_numberHere_21 : decode cX10_numberHere 21 = .ok (.if_icmp .gt 18, 3) := by decide +kernel
theorem dX10_numberHere_24 : decode cX10_numberHere 24 = .ok (.aload_n 0, 1) := by decide +kernel
theorem dX10_numberHere_25 : decode cX10_numberHere 25 = .ok (.aload_n 0, 1) := by decide +kernel
theorem dX10_numberHere_26 : decode cX10_numberHere 26 = .ok (.getfield 61, 3) := by decide +kernel
theorem dX10_numberHere_29 : decode cX10_numberHere 29 = .ok (.invokevirtual 64, 3) := by decide +kernel
theorem dX10_numberHere_32 : decode cX10_numberHere 32 = .ok (.invokestatic 82, 3) := by decide +kernel
theorem dX10_numberHere_35 : decode cX10_numberHere 35 = .ok (.iconst 1, 1) := by decide +kernel
theorem dX10_numberHere_36 : decode cX10_numberHere 36 = .ok (.if_icmp .eq 5, 3) := by decide +kernel
theorem dX10_numberHere_39 : decode cX10_numberHere 39 = .ok (.iconst (-1), 1) := by decide +kernel
theorem dX10_numberHere_40 : decode cX10_numberHere 40 = .ok (.ireturn, 1) := by decide +kernel
theorem dX10_numberHere_41 : decode cX10_numberHere 41 = .ok (.iconst 0, 1) := by decide +kernel
theorem dX10_numberHere_42 : decode cX10_numberHere 42 = .ok (.istore_n 1, 1) := by decide +kernel
theorem dX10_numberHere_43 : decode cX10_numberHere 43 = .ok (.aload_n 0, 1) := by decide +kernel
theorem dX10_numberHere_44 : decode cX10_numberHere 44 = .ok (.getfield 61, 3) := by decide +kernel
theorem dX10_numberHere_47 : decode cX10_numberHere 47 = .ok (.istore_n 2, 1) := by decide +kernel
theorem dX10_numberHere_48 : decode cX10_numberHere 48 = .ok (.iload_n 2, 1) := by decide +kernel
theorem dX10_numberHere_49 : decode cX10_numberHere 49 = .ok (.aload_n 0, 1) := by decide +kernel
theorem dX10_numberHere_50 : decode cX10_numberHere 50 = .ok (.getfield 32, 3) := by decide +kernel
theorem dX10_numberHere_53 : decode cX10_numberHere 53 = .ok (.if_icmp .ge 23, 3) := by decide +kernel
theorem dX10_numberHere_56 : decode cX10_numberHere 56 = .ok (.bipush 10, 2) := by decide +kernel
theorem dX10_numberHere_58 : decode cX10_numberHere 58 = .ok (.iload_n 1, 1) := by decide +kernel
theorem dX10_numberHere_59 : decode cX10_numberHere 59 = .ok (.imul, 1) := by decide +kernel
theorem dX10_numberHere_60 : decode cX10_numberHere 60 = .ok (.aload_n 0, 1) := by decide +kernel
theorem dX10_numberHere_61 : decode cX10_numberHere 61 = .ok (.iload_n 2, 1) := by decide +kernel
theorem dX10_numberHere_62 : decode cX10_numberHere 62 = .ok (.invokevirtual 64, 3) := by decide +kernel
theorem dX10_numberHere_65 : decode cX10_numberHere 65 = .ok (.iadd, 1) := by decide +kernel
theorem dX10_numberHere_66 : decode cX10_numberHere 66 = .ok (.bipush 48, 2) := by decide +kernel
theorem dX10_numberHere_68 : decode cX10_numberHere 68 = .ok (.isub, 1) := by decide +kernel
theorem dX10_numberHere_69 : decode cX10_numberHere 69 = .ok (.istore_n 1, 1) := by decide +kernel
theorem dX10_numberHere_70 : decode cX10_numberHere 70 = .ok (.iinc 2 1, 3) := by decide +kernel
theorem dX10_numberHere_73 : decode cX10_numberHere 73 = .ok (.goto (-25), 3) := by decide +kernel
theorem dX10_numberHere_76 : decode cX10_numberHere 76 = .ok (.iload_n 1, 1) := by decide +kernel
theorem dX10_numberHere_77 : decode cX10_numberHere 77 = .ok (.ireturn, 1) := by decide +kernel
set_option maxRecDepth 20000 in
theorem ggX11_init_X1_init : GoodIn wsX11_init wsX1_init := goodIn_r _ [31, 32, 2, 3, 33, 34, 35, 36, 19, 37, 38, 67, 68, 69, 70, 71, 72, 73] rfl (by decide +kernel)
set_option maxRecDepth 20000 in
theorem gX11_init_X1_init_n9 : GoodIn wsX11_init (wsX1_init) := ggX11_init_X1_init
set_option maxRecDepth 20000 in
theorem ggX11_init_X10_init : GoodIn wsX11_init wsX10_init := goodIn_r _ [40, 41, 2, 3, 19, 42, 43, 44, 88, 89, 90, 91, 92, 93, 94, 95, 96, 97] rfl (by decide +kernel)
set_option maxRecDepth 20000 in
theorem gX11_init_X10_init_n18 : GoodIn wsX11_init (wsX10_init) := ggX11_init_X10_init
set_option maxRecDepth 20000 in
theorem ggX11_init_X9_init : GoodIn wsX11_init wsX9_init := goodIn_r _ [46, 47, 2, 3, 19, 48, 49, 50, 51, 98, 99, 100, 101, 102, 103, 104] rfl (by decide +kernel)
set_option maxRecDepth 20000 in
theorem gX11_init_X9_init_n25 : GoodIn wsX11_init (wsX9_init) := ggX11_init_X9_init
set_option maxRecDepth 20000 in
theorem ggX11_init_X6_init : GoodIn wsX11_init wsX6_init := goodIn_r _ [53, 54, 2, 3, 19, 55, 56, 57, 58, 59, 60, 105, 106, 107, 108, 109, 110, 111] rfl (by decide +kernel)
set_option maxRecDepth 20000 in
theorem gX11_init_X6_init_n50 : GoodIn wsX11_init (wsX6_init) := ggX11_init_X6_init
set_option maxRecDepth 20000 in
theorem ggX11_init_X7_init : GoodIn wsX11_init wsX7_init := goodIn_r _ [62, 63, 2, 3, 64, 65, 66, 112, 113, 114] rfl (by decide +kernel)
set_option maxRecDepth 20000 in
theorem gX11_init_X7_init_n61 : GoodIn wsX11_init (wsX7_init) := ggX11_init_X7_init
theorem dX11_init_0 : decode cX11_init 0 = .ok (.aload_n 0, 1) := by decide +kernel
theorem dX11_init_1 : decode cX11_init 1 = .ok (.invokespecial 1, 3) := by decide +kernel
theorem dX11_init_4 : decode cX11_init 4 = .ok (.aload_n 0, 1) := by decide +kernel
theorem dX11_init_5 : decode cX11_init 5 = .ok (.new 7, 3) := by decide +kernel
theorem dX11_init_8 : decode cX11_init 8 = .ok (.dup, 1) := by decide +kernel
theorem dX11_init_9 : decode cX11_init 9 = .ok (.invokespecial 9, 3) := by decide +kernel
theorem dX11_init_12 : decode cX11_init 12 = .ok (.putfield 10, 3) := by decide +kernel
theorem dX11_init_15 : decode cX11_init 15 = .ok (.aload_n 0, 1) := by decide +kernel
theorem dX11_init_16 : decode cX11_init 16 = .ok (.new 16, 3) := by decide +kernel
theorem dX11_init_19 : decode cX11_init 19 = .ok (.dup, 1) := by decide +kernel
theorem dX11_init_20 : decode cX11_init 20 = .ok (.invokespecial 18, 3) := by decide +kernel
theorem dX11_init_23 : decode cX11_init 23 = .ok (.putfield 19, 3) := by decide +kernel
theorem dX11_init_26 : decode cX11_init 26 = .ok (.aload_n 0, 1) := by decide +kernel
theorem dX11_init_27 : decode cX11_init 27 = .ok (.new 23, 3) := by decide +kernel
theorem dX11_init_30 : decode cX11_init 30 = .ok (.dup, 1) := by decide +kernel
theorem dX11_init_31 : decode cX11_init 31 = .ok (.invokespecial 25, 3) := by decide +kernel
theorem dX11_init_34 : decode cX11_init 34 = .ok (.putfield 26, 3) := by decide +kernel
theorem dX11_init_37 : decode cX11_init 37 = .ok (.aload_n 0, 1) := by decide +kernel
theorem dX11_init_38 : decode cX11_init 38 = .ok (.bipush 8, 2) := by decide +kernel
theorem dX11_init_40 : decode cX11_init 40 = .ok (.anewarray 23, 3) := by decide +kernel
theorem dX11_init_43 : decode cX11_init 43 = .ok (.putfield 30, 3) := by decide +kernel
theorem dX11_init_46 : decode cX11_init 46 = .ok (.aload_n 0, 1) := by decide +kernel
theorem dX11_init_47 : decode cX11_init 47 = .ok (.iconst 2, 1) := by decide +kernel
theorem dX11_init_48 : decode cX11_init 48 = .ok (.anewarray 23, 3) := by decide +kernel
theorem dX11_init_51 : decode cX11_init 51 = .ok (.putfield 34, 3) := by decide +kernel
theorem dX11_init_54 : decode cX11_init 54 = .ok (.aload_n 0, 1) := by decide +kernel
theorem dX11_init_55 : decode cX11_init 55 = .ok (.iconst 2, 1) := by decide +kernel
theorem dX11_init_56 : decode cX11_init 56 = .ok (.anewarray 16, 3) := by decide +kernel
theorem dX11_init_59 : decode cX11_init 59 = .ok (.putfield 37, 3) := by decide +kernel
theorem dX11_init_62 : decode cX11_init 62 = .ok (.aload_n 0, 1) := by decide +kernel
theorem dX11_init_63 : decode cX11_init 63 = .ok (.bipush 6, 2) := by decide +kernel
theorem dX11_init_65 : decode cX11_init 65 = .ok (.newarray .int, 2) := by decide +kernel
theorem dX11_init_67 : decode cX11_init 67 = .ok (.putfield 41, 3) := by decide +kernel
theorem dX11_init_70 : decode cX11_init 70 = .ok (.aload_n 0, 1) := by decide +kernel
theorem dX11_init_71 : decode cX11_init 71 = .ok (.bipush 6, 2) := by decide +kernel
theorem dX11_init_73 : decode cX11_init 73 = .ok (.newarray .int, 2) := by decide +kernel
theorem dX11_init_75 : decode cX11_init 75 = .ok (.putfield 45, 3) := by decide +kernel
theorem dX11_init_78 : decode cX11_init 78 = .ok (.aload_n 0, 1) := by decide +kernel
theorem dX11_init_79 : decode cX11_init 79 = .ok (.new 48, 3) := by decide +kernel
theorem dX11_init_82 : decode cX11_init 82 = .ok (.dup, 1) := by decide +kernel
theorem dX11_init_83 : decode cX11_init 83 = .ok (.invokespecial 50, 3) := by decide +kernel
theorem dX11_init_86 : decode cX11_init 86 = .ok (.putfield 51, 3) := by decide +kernel
theorem dX11_init_89 : decode cX11_init 89 = .ok (.aload_n 0, 1) := by decide +kernel
theorem dX11_init_90 : decode cX11_init 90 = .ok (.iconst 4, 1) := by decide +kernel
theorem dX11_init_91 : decode cX11_init 91 = .ok (.anewarray 55, 3) := by decide +kernel
theorem dX11_init_94 : decode cX11_init 94 = .ok (.putfield 57, 3) := by decide +kernel
theorem dX11_init_97 : decode cX11_init 97 = .ok (.iconst 0, 1) := by decide +kernel
theorem dX11_init_98 : decode cX11_init 98 = .ok (.istore_n 1, 1) := by decide +kernel
theorem dX11_init_99 : decode cX11_init 99 = .ok (.iload_n 1, 1) := by decide +kernel
theorem dX11_init_100 : decode cX11_init 100 = .ok (.bipush 8, 2) := by decide +kernel
theorem dX11_init_102 : decode cX11_init 102 = .ok (.if_icmp .ge 22, 3) := by decide +kernel
theorem dX11_init_105 : decode cX11_init 105 = .ok (.aload_n 0, 1) := by decide +kernel
theorem dX11_init_106 : decode cX11_init 106 = .ok (.getfield 30, 3) := by decide +kernel
theorem dX11_init_109 : decode cX11_init 109 = .ok (.iload_n 1, 1) := by decide +kernel
theorem dX11_init_110 : decode cX11_init 110 = .ok (.new 23, 3) := by decide +kernel
theorem dX11_init_113 : decode cX11_init 113 = .ok (.dup, 1) := by decide +kernel
theorem dX11_init_114 : decode cX11_init 114 = .ok (.invokespecial 25, 3) := by decide +kernel
theorem dX11_init_117 : decode cX11_init 117 = .ok (.aastore, 1) := by decide +kernel
theorem dX11_init_118 : decode cX11_init 118 = .ok (.iinc 1 1, 3) := by decide +kernel
theorem dX11_init_121 : decode cX11_init 121 = .ok (.goto (-22), 3) := by decide +kernel
theorem dX11_init_124 : decode cX11_init 124 = .ok (.iconst 0, 1) := by decide +kernel
theorem dX11_init_125 : decode cX11_init 125 = .ok (.istore_n 1, 1) := by decide +kernel
theorem dX11_init_126 : decode cX11_init 126 = .ok (.iload_n 1, 1) := by decide +kernel
theorem dX11_init_127 : decode cX11_init 127 = .ok (.iconst 2, 1) := by decide +kernel
theorem dX11_init_128 : decode cX11_init 128 = .ok (.if_icmp .ge 35, 3) := by decide +kernel
theorem dX11_init_131 : decode cX11_init 131 = .ok (.aload_n 0, 1) := by decide +kernel
theorem dX11_init_132 : decode cX11_init 132 = .ok (.getfield 34, 3) := by decide +kernel
theorem dX11_init_135 : decode cX11_init 135 = .ok (.iload_n 1, 1) := by decide +kernel
theorem dX11_init_136 : decode cX11_init 136 = .ok (.new 23, 3) := by decide +kernel
theorem dX11_init_139 : decode cX11_init 139 = .ok (.dup, 1) := by decide +kernel
theorem dX11_init_140 : decode cX11_init 140 = .ok (.invokespecial 25, 3) := by decide +kernel
theorem dX11_init_143 : decode cX11_init 143 = .ok (.aastore, 1) := by decide +kernel
theorem dX11_init_144 : decode cX11_init 144 = .ok (.aload_n 0, 1) := by decide +kernel
theorem dX11_init_145 : decode cX11_init 145 = .ok (.getfield 37, 3) := by decide +kernel
theorem dX11_init_148 : decode cX11_init 148 = .ok (.iload_n 1, 1) := by decide +kernel
theorem dX11_init_149 : decode cX11_init 149 = .ok (.new 16, 3) := by decide +kernel
theorem dX11_init_152 : decode cX11_init 152 = .ok (.dup, 1) := by decide +kernel
theorem dX11_init_153 : decode cX11_init 153 = .ok (.invokespecial 18, 3) := by decide +kernel
theorem dX11_init_156 : decode cX11_init 156 = .ok (.aastore, 1) := by decide +kernel
theorem dX11_init_157 : decode cX11_init 157 = .ok (.iinc 1 1, 3) := by decide +kernel
theorem dX11_init_160 : decode cX11_init 160 = .ok (.goto (-34), 3) := by decide +kernel
theorem dX11_init_163 : decode cX11_init 163 = .ok (.iconst 0, 1) := by decide +kernel
theorem dX11_init_164 : decode cX11_init 164 = .ok (.istore_n 1, 1) := by decide +kernel
theorem dX11_init_165 : decode cX11_init 165 = .ok (.iload_n 1, 1) := by decide +kernel
theorem dX11_init_166 : decode cX11_init 166 = .ok (.iconst 4, 1) := by decide +kernel
theorem dX11_init_167 : decode cX11_init 167 = .ok (.if_icmp .ge 22, 3) := by decide +kernel
theorem dX11_init_170 : decode cX11_init 170 = .ok (.aload_n 0, 1) := by decide +kernel
theorem dX11_init_171 : decode cX11_init 171 = .ok (.getfield 57, 3) := by decide +kernel
theorem dX11_init_174 : decode cX11_init 174 = .ok (.iload_n 1, 1) := by decide +kernel
theorem dX11_init_175 : decode cX11_init 175 = .ok (.new 55, 3) := by decide +kernel
theorem dX11_init_178 : decode cX11_init 178 = .ok (.dup, 1) := by decide +kernel
theorem dX11_init_179 : decode cX11_init 179 = .ok (.invokespecial 61, 3) := by decide +kernel
theorem dX11_init_182 : decode cX11_init 182 = .ok (.aastore, 1) := by decide +kernel
theorem dX11_init_183 : decode cX11_init 183 = .ok (.iinc 1 1, 3) := by decide +kernel
theorem dX11_init_186 : decode cX11_init 186 = .ok (.goto (-21), 3) := by decide +kernel
theorem dX11_init_189 : decode cX11_init 189 = .ok (.return_, 1) := by decide +kernel
set_option maxRecDepth 20000 in
theorem ggX11_write_X10_hasPlace : GoodIn wsX11_write wsX10_hasPlace := goodIn_r _ [7, 8, 29, 30, 31, 32, 33, 34, 35, 36, 37, 38] rfl (by decide +kernel)
set_option maxRecDepth 20000 in
theorem gX11_write_X10_hasPlace : GoodIn wsX11_write (wsV RX11 62 RX10 yX10_hasPlace wsX10_hasPlace) := goodIn_app (goodIn_of _ (by decide +kernel)) ggX11_write_X10_hasPlace
set_option maxRecDepth 20000 in
theorem ggX11_write_X10_add : GoodIn wsX11_write wsX10_add := goodIn_r _ [12, 13, 8, 14, 4, 5, 6, 7, 29, 30, 31, 32, 33, 34, 35, 36, 37, 38] rfl (by decide +kernel)
set_option maxRecDepth 20000 in
theorem gX11_write_X10_add : GoodIn wsX11_write (wsV RX11 66 RX10 yX10_add wsX10_add) := goodIn_app (goodIn_of _ (by decide +kernel)) ggX11_write_X10_add
theorem dX11_write_0 : decode cX11_write 0 = .ok (.iload_n 1, 1) := by decide +kernel
theorem dX11_write_1 : decode cX11_write 1 = .ok (.ifCond .lt 10, 3) := by decide +kernel
theorem dX11_write_4 : decode cX11_write 4 = .ok (.iload_n 1, 1) := by decide +kernel
theorem dX11_write_5 : decode cX11_write 5 = .ok (.sipush 255, 3) := by decide +kernel
theorem dX11_write_8 : decode cX11_write 8 = .ok (.if_icmp .le 6, 3) := by decide +kernel
theorem dX11_write_11 : decode cX11_write 11 = .ok (.bipush (-3), 2) := by decide +kernel
theorem dX11_write_13 : decode cX11_write 13 = .ok (.ireturn, 1) := by decide +kernel
theorem dX11_write_14 : decode cX11_write 14 = .ok (.aload_n 0, 1) := by decide +kernel
theorem dX11_write_15 : decode cX11_write 15 = .ok (.getfield 19, 3) := by decide +kernel
theorem dX11_write_18 : decode cX11_write 18 = .ok (.invokevirtual 62, 3) := by decide +kernel
theorem dX11_write_21 : decode cX11_write 21 = .ok (.ifCond .ne 6, 3) := by decide +kernel
theorem dX11_write_24 : decode cX11_write 24 = .ok (.bipush (-5), 2) := by decide +kernel
theorem dX11_write_26 : decode cX11_write 26 = .ok (.ireturn, 1) := by decide +kernel
theorem dX11_write_27 : decode cX11_write 27 = .ok (.aload_n 0, 1) := by decide +kernel
theorem dX11_write_28 : decode cX11_write 28 = .ok (.getfield 19, 3) := by decide +kernel
theorem dX11_write_31 : decode cX11_write 31 = .ok (.iload_n 1, 1) := by decide +kernel
theorem dX11_write_32 : decode cX11_write 32 = .ok (.invokevirtual 66, 3) := by decide +kernel
theorem dX11_write_35 : decode cX11_write 35 = .ok (.aload_n 0, 1) := by decide +kernel
theorem dX11_write_36 : decode cX11_write 36 = .ok (.getfield 19, 3) := by decide +kernel
theorem dX11_write_39 : decode cX11_write 39 = .ok (.getfield 70, 3) := by decide +kernel
theorem dX11_write_42 : decode cX11_write 42 = .ok (.ireturn, 1) := by decide +kernel
theorem dX11_erase_0 : decode cX11_erase 0 = .ok (.aload_n 0, 1) := by decide +kernel
theorem dX11_erase_1 : decode cX11_erase 1 = .ok (.getfield 19, 3) := by decide +kernel
theorem dX11_erase_4 : decode cX11_erase 4 = .ok (.getfield 70, 3) := by decide +kernel
theorem dX11_erase_7 : decode cX11_erase 7 = .ok (.istore_n 1, 1) := by decide +kernel
theorem dX11_erase_8 : decode cX11_erase 8 = .ok (.aload_n 0, 1) := by decide +kernel
theorem dX11_erase_9 : decode cX11_erase 9 = .ok (.getfield 19, 3) := by decide +kernel
theorem dX11_erase_12 : decode cX11_erase 12 = .ok (.iconst 0, 1) := by decide +kernel
theorem dX11_erase_13 : decode cX11_erase 13 = .ok (.putfield 70, 3) := by decide +kernel
theorem dX11_erase_16 : decode cX11_erase 16 = .ok (.iload_n 1, 1) := by decide +kernel
theorem dX11_erase_17 : decode cX11_erase 17 = .ok (.ireturn, 1) := by decide +kernel
set_option maxRecDepth 20000 in
theorem ggX11_fault_X10_readFor : GoodIn wsX11_fault wsX10_readFor := goodIn_r _ [7, 8, 9, 10, 11, 12, 13, 14, 15, 16, 17, 18, 19, 20, 6, 21, 22, 23, 24, 25, 26, 27, 28, 29, 30, 31, 32, 33, 34, 35, 36, 37, 38, 39, 40, 41, 42, 43, 44, 45, 46, 47, 48, 49, 50, 51, 52, 53, 54, 55, 56, 57, 58, 59, 60, 61, 62, 63, 64, 65, 66, 67, 68, 69, 70, 71, 72, 73, 74, 75, 76, 77, 78, 79, 80, 81, 82, 83, 84, 85, 86, 87, 88, 89, 90, 91, 92, 93, 94, 95, 96, 97, 98, 99, 100, 101, 102, 103, 104, 119, 120, 121, 122, 123, 124, 125, 126, 127, 128, 129, 130, 131, 132, 133, 134, 135] rfl (by decide +kernel)
set_option maxRecDepth 20000 in
theorem gX11_fault_X10_readFor : GoodIn wsX11_fault (wsV RX11 74 RX10 yX10_readFor wsX10_readFor) := goodIn_app (goodIn_of _ (by decide +kernel)) ggX11_fault_X10_readFor
theorem dX11_fault_0 : decode cX11_fault 0 = .ok (.aload_n 0, 1) := by decide +kernel
theorem dX11_fault_1 : decode cX11_fault 1 = .ok (.getfield 19, 3) := by decide +kernel
theorem dX11_fault_4 : decode cX11_fault 4 = .ok (.aload_n 0, 1) := by decide +kernel
theorem dX11_fault_5 : decode cX11_fault 5 = .ok (.getfield 10, 3) := by decide +kernel
theorem dX11_fault_8 : decode cX11_fault 8 = .ok (.invokevirtual 74, 3) := by decide +kernel
theorem dX11_fault_11 : decode cX11_fault 11 = .ok (.ireturn, 1) := by decide +kernel
set_option maxRecDepth 20000 in
theorem ggX11_land_X10_readFor : GoodIn wsX11_land wsX10_readFor := goodIn_r _ [13, 14, 15, 16, 17, 18, 19, 20, 21, 22, 23, 24, 25, 26, 12, 27, 28, 29, 30, 31, 32, 33, 34, 35, 36, 37, 38, 39, 40, 41, 42, 43, 44, 45, 46, 47, 48, 49, 50, 51, 52, 53, 54, 55, 56, 57, 58, 59, 60, 61, 62, 63, 64, 65, 66, 67, 68, 69, 70, 71, 72, 73, 74, 75, 76, 77, 78, 79, 80, 81, 82, 83, 84, 85, 86, 87, 88, 89, 90, 91, 92, 93, 94, 95, 96, 97, 98, 99, 100, 101, 102, 103, 104, 105, 106, 107, 108, 109, 110, 223, 224, 225, 226, 227, 228, 229, 230, 231, 232, 233, 234, 235, 236, 237, 238, 239] rfl (by decide +kernel)
set_option maxRecDepth 20000 in
theorem gX11_land_X10_readFor : GoodIn wsX11_land (wsV RX11 74 RX10 yX10_readFor wsX10_readFor) := goodIn_app (goodIn_of _ (by decide +kernel)) ggX11_land_X10_readFor
set_option maxRecDepth 20000 in
theorem ggX11_land_X11_tell : GoodIn wsX11_land wsX11_tell := goodIn_r _ [115, 1, 2, 116, 117, 118, 119, 120, 121, 122, 123, 124, 125, 126, 127, 128, 129, 130, 131, 132, 133, 134, 12, 135, 40, 136, 137, 138, 139, 42, 140, 141, 142, 143, 144, 145, 146, 147, 148, 149, 150, 151, 152, 153, 154, 155, 156, 157, 158, 159, 160, 161, 162, 163, 164, 165, 166, 167, 168, 169, 170, 171, 172, 173, 174, 175, 176, 177, 178, 179, 180, 181, 182, 183, 184, 185, 186, 187, 188, 189, 190, 191, 192, 193, 194, 195, 209, 210, 211, 212, 213, 214, 215, 216, 217, 218, 219, 220, 221, 222, 240, 241, 242, 243, 244, 245, 246, 247, 248, 249, 250, 251, 233, 234, 235, 236, 237, 238, 239, 223, 224, 225, 226, 227, 228, 229, 230, 231, 232] rfl (by decide +kernel)
set_option maxRecDepth 20000 in
theorem gX11_land_X11_tell : GoodIn wsX11_land (wsV RX11 81 RX11 yX11_tell wsX11_tell) := goodIn_app (goodIn_of _ (by decide +kernel)) ggX11_land_X11_tell
set_option maxRecDepth 20000 in
theorem ggX11_land_X9_begin : GoodIn wsX11_land wsX9_begin := goodIn_r _ [200, 201, 202, 203, 204, 205, 206, 207, 208, 252, 253, 254, 255, 256, 257, 258, 233, 234, 235, 236, 237, 238, 239] rfl (by decide +kernel)
set_option maxRecDepth 20000 in
theorem gX11_land_X9_begin : GoodIn wsX11_land (wsV RX11 84 RX9 yX9_begin wsX9_begin) := goodIn_app (goodIn_of _ (by decide +kernel)) ggX11_land_X9_begin
theorem dX11_land_0 : decode cX11_land 0 = .ok (.aload_n 0, 1) := by decide +kernel
theorem dX11_land_1 : decode cX11_land 1 = .ok (.getfield 19, 3) := by decide +kernel
theorem dX11_land_4 : decode cX11_land 4 = .ok (.aload_n 0, 1) := by decide +kernel
theorem dX11_land_5 : decode cX11_land 5 = .ok (.getfield 10, 3) := by decide +kernel
theorem dX11_land_8 : decode cX11_land 8 = .ok (.invokevirtual 74, 3) := by decide +kernel
theorem dX11_land_11 : decode cX11_land 11 = .ok (.iconst (-1), 1) := by decide +kernel
theorem dX11_land_12 : decode cX11_land 12 = .ok (.if_icmp .eq 6, 3) := by decide +kernel
theorem dX11_land_15 : decode cX11_land 15 = .ok (.bipush (-4), 2) := by decide +kernel
theorem dX11_land_17 : decode cX11_land 17 = .ok (.ireturn, 1) := by decide +kernel
theorem dX11_land_18 : decode cX11_land 18 = .ok (.iconst 0, 1) := by decide +kernel
theorem dX11_land_19 : decode cX11_land 19 = .ok (.istore_n 1, 1) := by decide +kernel
theorem dX11_land_20 : decode cX11_land 20 = .ok (.iload_n 1, 1) := by decide +kernel
theorem dX11_land_21 : decode cX11_land 21 = .ok (.aload_n 0, 1) := by decide +kernel
theorem dX11_land_22 : decode cX11_land 22 = .ok (.getfield 19, 3) := by decide +kernel
theorem dX11_land_25 : decode cX11_land 25 = .ok (.getfield 78, 3) := by decide +kernel
theorem dX11_land_28 : decode cX11_land 28 = .ok (.if_icmp .ge 14, 3) := by decide +kernel
theorem dX11_land_31 : decode cX11_land 31 = .ok (.aload_n 0, 1) := by decide +kernel
theorem dX11_land_32 : decode cX11_land 32 = .ok (.iload_n 1, 1) := by decide +kernel
theorem dX11_land_33 : decode cX11_land 33 = .ok (.invokevirtual 81, 3) := by decide +kernel
theorem dX11_land_36 : decode cX11_land 36 = .ok (.iinc 1 1, 3) := by decide +kernel
theorem dX11_land_39 : decode cX11_land 39 = .ok (.goto (-19), 3) := by decide +kernel
theorem dX11_land_42 : decode cX11_land 42 = .ok (.aload_n 0, 1) := by decide +kernel
theorem dX11_land_43 : decode cX11_land 43 = .ok (.getfield 19, 3) := by decide +kernel
theorem dX11_land_46 : decode cX11_land 46 = .ok (.iconst 0, 1) := by decide +kernel
theorem dX11_land_47 : decode cX11_land 47 = .ok (.putfield 70, 3) := by decide +kernel
theorem dX11_land_50 : decode cX11_land 50 = .ok (.aload_n 0, 1) := by decide +kernel
theorem dX11_land_51 : decode cX11_land 51 = .ok (.getfield 26, 3) := by decide +kernel
theorem dX11_land_54 : decode cX11_land 54 = .ok (.aload_n 0, 1) := by decide +kernel
theorem dX11_land_55 : decode cX11_land 55 = .ok (.getfield 10, 3) := by decide +kernel
theorem dX11_land_58 : decode cX11_land 58 = .ok (.invokevirtual 84, 3) := by decide +kernel
theorem dX11_land_61 : decode cX11_land 61 = .ok (.aload_n 0, 1) := by decide +kernel
theorem dX11_land_62 : decode cX11_land 62 = .ok (.iconst 0, 1) := by decide +kernel
theorem dX11_land_63 : decode cX11_land 63 = .ok (.putfield 88, 3) := by decide +kernel
theorem dX11_land_66 : decode cX11_land 66 = .ok (.aload_n 0, 1) := by decide +kernel
theorem dX11_land_67 : decode cX11_land 67 = .ok (.iconst 0, 1) := by decide +kernel
theorem dX11_land_68 : decode cX11_land 68 = .ok (.putfield 91, 3) := by decide +kernel
theorem dX11_land_71 : decode cX11_land 71 = .ok (.aload_n 0, 1) := by decide +kernel
theorem dX11_land_72 : decode cX11_land 72 = .ok (.iconst 0, 1) := by decide +kernel
theorem dX11_land_73 : decode cX11_land 73 = .ok (.putfield 94, 3) := by decide +kernel
theorem dX11_land_76 : decode cX11_land 76 = .ok (.aload_n 0, 1) := by decide +kernel
theorem dX11_land_77 : decode cX11_land 77 = .ok (.getfield 19, 3) := by decide +kernel
theorem dX11_land_80 : decode cX11_land 80 = .ok (.getfield 78, 3) := by decide +kernel
theorem dX11_land_83 : decode cX11_land 83 = .ok (.ireturn, 1) := by decide +kernel
set_option maxRecDepth 20000 in
theorem ggX11_key_X1_keyAt : GoodIn wsX11_key wsX1_keyAt := goodIn_r _ [9, 10, 11, 99, 100, 101, 102, 103, 104, 105] rfl (by decide +kernel)
set_option maxRecDepth 20000 in
theorem gX11_key_X1_keyAt : GoodIn wsX11_key (wsV RX11 97 RX1 yX1_keyAt wsX1_keyAt) := goodIn_app (goodIn_of _ (by decide +kernel)) ggX11_key_X1_keyAt
set_option maxRecDepth 20000 in
theorem ggX11_key_X0_kindNumber : GoodIn wsX11_key wsX0_kindNumber := goodIn_r _ [17] rfl (by decide +kernel)
set_option maxRecDepth 20000 in
theorem gX11_key_X0_kindNumber_u101X0 : GoodIn wsX11_key (va_wsU RX11 101 RX0 "WardWalkers$Key" ⟨"WardWalkers$Key", "kindNumber", "()I"⟩ yX0_kindNumber wsX0_kindNumber) := goodIn_app (goodIn_of _ (by decide +kernel)) ggX11_key_X0_kindNumber
set_option maxRecDepth 20000 in
theorem ggX11_key_X2_kindNumber : GoodIn wsX11_key wsX2_kindNumber := goodIn_r _ [21] rfl (by decide +kernel)
set_option maxRecDepth 20000 in
theorem gX11_key_X2_kindNumber_u101X2 : GoodIn wsX11_key (va_wsU RX11 101 RX2 "WardWalkers$Key" ⟨"WardWalkers$Key", "kindNumber", "()I"⟩ yX2_kindNumber wsX2_kindNumber) := goodIn_app (goodIn_of _ (by decide +kernel)) ggX11_key_X2_kindNumber
set_option maxRecDepth 20000 in
theorem ggX11_key_X5_kindNumber : GoodIn wsX11_key wsX5_kindNumber := goodIn_r _ [25] rfl (by decide +kernel)
set_option maxRecDepth 20000 in
theorem gX11_key_X5_kindNumber_u101X5 : GoodIn wsX11_key (va_wsU RX11 101 RX5 "WardWalkers$Key" ⟨"WardWalkers$Key", "kindNumber", "()I"⟩ yX5_kindNumber wsX5_kindNumber) := goodIn_app (goodIn_of _ (by decide +kernel)) ggX11_key_X5_kindNumber
set_option maxRecDepth 20000 in
theorem ggX11_key_X8_kindNumber : GoodIn wsX11_key wsX8_kindNumber := goodIn_r _ [29] rfl (by decide +kernel)
set_option maxRecDepth 20000 in
theorem gX11_key_X8_kindNumber_u101X8 : GoodIn wsX11_key (va_wsU RX11 101 RX8 "WardWalkers$Key" ⟨"WardWalkers$Key", "kindNumber", "()I"⟩ yX8_kindNumber wsX8_kindNumber) := goodIn_app (goodIn_of _ (by decide +kernel)) ggX11_key_X8_kindNumber
set_option maxRecDepth 20000 in
theorem ggX11_key_X9_bentOf : GoodIn wsX11_key wsX9_bentOf := goodIn_r _ [34, 35, 106, 107, 108, 109, 110, 111, 112] rfl (by decide +kernel)
set_option maxRecDepth 20000 in
theorem gX11_key_X9_bentOf : GoodIn wsX11_key (wsV RX11 113 RX9 yX9_bentOf wsX9_bentOf) := goodIn_app (goodIn_of _ (by decide +kernel)) ggX11_key_X9_bentOf
set_option maxRecDepth 20000 in
theorem ggX11_key_X9_turnedOf : GoodIn wsX11_key wsX9_turnedOf := goodIn_r _ [39, 40, 106, 107, 108, 109, 110, 111, 112] rfl (by decide +kernel)
set_option maxRecDepth 20000 in
theorem gX11_key_X9_turnedOf : GoodIn wsX11_key (wsV RX11 117 RX9 yX9_turnedOf wsX9_turnedOf) := goodIn_app (goodIn_of _ (by decide +kernel)) ggX11_key_X9_turnedOf
set_option maxRecDepth 20000 in
theorem ggX11_key_X0_edge : GoodIn wsX11_key wsX0_edge := goodIn_r _ [45, 46, 47, 48, 49, 50, 51, 52, 53, 54, 91, 92, 93, 94, 95, 96, 97, 98] rfl (by decide +kernel)
set_option maxRecDepth 20000 in
theorem gX11_key_X0_edge_u120X0 : GoodIn wsX11_key (va_wsU RX11 120 RX0 "WardWalkers$Key" ⟨"WardWalkers$Key", "edge", "(I)I"⟩ yX0_edge wsX0_edge) := goodIn_app (goodIn_of _ (by decide +kernel)) ggX11_key_X0_edge
set_option maxRecDepth 20000 in
theorem ggX11_key_X2_edge : GoodIn wsX11_key wsX2_edge := goodIn_r _ [57, 58, 59, 60, 61, 62, 49, 50, 51, 52, 91, 92, 93, 94, 95, 96, 97, 98] rfl (by decide +kernel)
set_option maxRecDepth 20000 in
theorem gX11_key_X2_edge_u120X2 : GoodIn wsX11_key (va_wsU RX11 120 RX2 "WardWalkers$Key" ⟨"WardWalkers$Key", "edge", "(I)I"⟩ yX2_edge wsX2_edge) := goodIn_app (goodIn_of _ (by decide +kernel)) ggX11_key_X2_edge
set_option maxRecDepth 20000 in
theorem gX11_key_X0_edge_u120X5 : GoodIn wsX11_key (va_wsU RX11 120 RX5 "WardWalkers$Key" ⟨"WardWalkers$Key", "edge", "(I)I"⟩ yX0_edge wsX0_edge) := goodIn_app (goodIn_of _ (by decide +kernel)) ggX11_key_X0_edge
set_option maxRecDepth 20000 in
theorem ggX11_key_X8_edge : GoodIn wsX11_key wsX8_edge := goodIn_r _ [66, 67, 68, 69, 70, 71, 44, 16, 45, 46, 47, 48, 49, 50, 51, 52, 53, 54, 91, 92, 93, 94, 95, 96, 97, 98] rfl (by decide +kernel)
set_option maxRecDepth 20000 in
theorem gX11_key_X8_edge_u120X8 : GoodIn wsX11_key (va_wsU RX11 120 RX8 "WardWalkers$Key" ⟨"WardWalkers$Key", "edge", "(I)I"⟩ yX8_edge wsX8_edge) := goodIn_app (goodIn_of _ (by decide +kernel)) ggX11_key_X8_edge
set_option maxRecDepth 20000 in
theorem ggX11_key_X11_isBroken : GoodIn wsX11_key wsX11_isBroken := goodIn_r _ [76, 4, 36, 37, 38, 33, 39, 40, 77, 78, 79, 80, 81, 82, 83, 84, 85, 86, 87, 88, 89, 90, 106, 107, 108, 109, 110, 111, 112] rfl (by decide +kernel)
set_option maxRecDepth 20000 in
theorem gX11_key_X11_isBroken : GoodIn wsX11_key (wsV RX11 123 RX11 yX11_isBroken wsX11_isBroken) := goodIn_app (goodIn_of _ (by decide +kernel)) ggX11_key_X11_isBroken
theorem dX11_key_0 : decode cX11_key 0 = .ok (.aload_n 0, 1) := by decide +kernel
theorem dX11_key_1 : decode cX11_key 1 = .ok (.getfield 10, 3) := by decide +kernel
theorem dX11_key_4 : decode cX11_key 4 = .ok (.iload_n 1, 1) := by decide +kernel
theorem dX11_key_5 : decode cX11_key 5 = .ok (.invokevirtual 97, 3) := by decide +kernel
theorem dX11_key_8 : decode cX11_key 8 = .ok (.astore_n 3, 1) := by decide +kernel
theorem dX11_key_9 : decode cX11_key 9 = .ok (.aload_n 3, 1) := by decide +kernel
theorem dX11_key_10 : decode cX11_key 10 = .ok (.ifnonnull 6, 3) := by decide +kernel
theorem dX11_key_13 : decode cX11_key 13 = .ok (.bipush (-2), 2) := by decide +kernel
theorem dX11_key_15 : decode cX11_key 15 = .ok (.ireturn, 1) := by decide +kernel
theorem dX11_key_16 : decode cX11_key 16 = .ok (.iload_n 2, 1) := by decide +kernel
theorem dX11_key_17 : decode cX11_key 17 = .ok (.tableswitch 103 0 6 #[43, 48, 53, 58, 67, 76, 89], 43) := by decide +kernel
theorem dX11_key_60 : decode cX11_key 60 = .ok (.aload_n 3, 1) := by decide +kernel
theorem dX11_key_61 : decode cX11_key 61 = .ok (.invokevirtual 101, 3) := by decide +kernel
theorem dX11_key_64 : decode cX11_key 64 = .ok (.ireturn, 1) := by decide +kernel
theorem dX11_key_65 : decode cX11_key 65 = .ok (.aload_n 3, 1) := by decide +kernel
theorem dX11_key_66 : decode cX11_key 66 = .ok (.getfield 107, 3) := by decide +kernel
theorem dX11_key_69 : decode cX11_key 69 = .ok (.ireturn, 1) := by decide +kernel
theorem dX11_key_70 : decode cX11_key 70 = .ok (.aload_n 3, 1) := by decide +kernel
theorem dX11_key_71 : decode cX11_key 71 = .ok (.getfield 110, 3) := by decide +kernel
theorem dX11_key_74 : decode cX11_key 74 = .ok (.ireturn, 1) := by decide +kernel
theorem dX11_key_75 : decode cX11_key 75 = .ok (.aload_n 0, 1) := by decide +kernel
theorem dX11_key_76 : decode cX11_key 76 = .ok (.getfield 26, 3) := by decide +kernel
theorem dX11_key_79 : decode cX11_key 79 = .ok (.iload_n 1, 1) := by decide +kernel
theorem dX11_key_80 : decode cX11_key 80 = .ok (.invokevirtual 113, 3) := by decide +kernel
theorem dX11_key_83 : decode cX11_key 83 = .ok (.ireturn, 1) := by decide +kernel
theorem dX11_key_84 : decode cX11_key 84 = .ok (.aload_n 0, 1) := by decide +kernel
theorem dX11_key_85 : decode cX11_key 85 = .ok (.getfield 26, 3) := by decide +kernel
theorem dX11_key_88 : decode cX11_key 88 = .ok (.iload_n 1, 1) := by decide +kernel
theorem dX11_key_89 : decode cX11_key 89 = .ok (.invokevirtual 117, 3) := by decide +kernel
theorem dX11_key_92 : decode cX11_key 92 = .ok (.ireturn, 1) := by decide +kernel
theorem dX11_key_93 : decode cX11_key 93 = .ok (.aload_n 3, 1) := by decide +kernel
theorem dX11_key_94 : decode cX11_key 94 = .ok (.aload_n 0, 1) := by decide +kernel
theorem dX11_key_95 : decode cX11_key 95 = .ok (.getfield 26, 3) := by decide +kernel
theorem dX11_key_98 : decode cX11_key 98 = .ok (.iload_n 1, 1) := by decide +kernel
theorem dX11_key_99 : decode cX11_key 99 = .ok (.invokevirtual 113, 3) := by decide +kernel
theorem dX11_key_102 : decode cX11_key 102 = .ok (.invokevirtual 120, 3) := by decide +kernel
theorem dX11_key_105 : decode cX11_key 105 = .ok (.ireturn, 1) := by decide +kernel
theorem dX11_key_106 : decode cX11_key 106 = .ok (.aload_n 0, 1) := by decide +kernel
theorem dX11_key_107 : decode cX11_key 107 = .ok (.iload_n 1, 1) := by decide +kernel
theorem dX11_key_108 : decode cX11_key 108 = .ok (.invokevirtual 123, 3) := by decide +kernel
theorem dX11_key_111 : decode cX11_key 111 = .ok (.ifCond .eq 7, 3) := by decide +kernel
theorem dX11_key_114 : decode cX11_key 114 = .ok (.iconst 1, 1) := by decide +kernel
theorem dX11_key_115 : decode cX11_key 115 = .ok (.goto 4, 3) := by decide +kernel
theorem dX11_key_118 : decode cX11_key 118 = .ok (.iconst 0, 1) := by decide +kernel
theorem dX11_key_119 : decode cX11_key 119 = .ok (.ireturn, 1) := by decide +kernel
theorem dX11_key_120 : decode cX11_key 120 = .ok (.bipush (-3), 2) := by decide +kernel
theorem dX11_key_122 : decode cX11_key 122 = .ok (.ireturn, 1) := by decide +kernel
set_option maxRecDepth 20000 in
theorem ggX11_lock_X1_lockAt : GoodIn wsX11_lock wsX1_lockAt := goodIn_r _ [11, 12, 13, 38, 39, 40, 41, 42, 43, 44] rfl (by decide +kernel)
set_option maxRecDepth 20000 in
theorem gX11_lock_X1_lockAt : GoodIn wsX11_lock (wsV RX11 127 RX1 yX1_lockAt wsX1_lockAt) := goodIn_app (goodIn_of _ (by decide +kernel)) ggX11_lock_X1_lockAt
set_option maxRecDepth 20000 in
theorem ggX11_lock_X9_isOpen : GoodIn wsX11_lock wsX9_isOpen := goodIn_r _ [18, 19, 45, 46, 47, 48, 49, 50, 51] rfl (by decide +kernel)
set_option maxRecDepth 20000 in
theorem gX11_lock_X9_isOpen : GoodIn wsX11_lock (wsV RX11 145 RX9 yX9_isOpen wsX9_isOpen) := goodIn_app (goodIn_of _ (by decide +kernel)) ggX11_lock_X9_isOpen
theorem dX11_lock_0 : decode cX11_lock 0 = .ok (.aload_n 0, 1) := by decide +kernel
theorem dX11_lock_1 : decode cX11_lock 1 = .ok (.getfield 10, 3) := by decide +kernel
theorem dX11_lock_4 : decode cX11_lock 4 = .ok (.iload_n 1, 1) := by decide +kernel
theorem dX11_lock_5 : decode cX11_lock 5 = .ok (.invokevirtual 127, 3) := by decide +kernel
theorem dX11_lock_8 : decode cX11_lock 8 = .ok (.astore_n 3, 1) := by decide +kernel
theorem dX11_lock_9 : decode cX11_lock 9 = .ok (.aload_n 3, 1) := by decide +kernel
theorem dX11_lock_10 : decode cX11_lock 10 = .ok (.ifnonnull 6, 3) := by decide +kernel
theorem dX11_lock_13 : decode cX11_lock 13 = .ok (.bipush (-2), 2) := by decide +kernel
theorem dX11_lock_15 : decode cX11_lock 15 = .ok (.ireturn, 1) := by decide +kernel
theorem dX11_lock_16 : decode cX11_lock 16 = .ok (.iload_n 2, 1) := by decide +kernel
theorem dX11_lock_17 : decode cX11_lock 17 = .ok (.tableswitch 72 0 4 #[35, 40, 45, 50, 55], 35) := by decide +kernel
theorem dX11_lock_52 : decode cX11_lock 52 = .ok (.aload_n 3, 1) := by decide +kernel
theorem dX11_lock_53 : decode cX11_lock 53 = .ok (.getfield 131, 3) := by decide +kernel
theorem dX11_lock_56 : decode cX11_lock 56 = .ok (.ireturn, 1) := by decide +kernel
theorem dX11_lock_57 : decode cX11_lock 57 = .ok (.aload_n 3, 1) := by decide +kernel
theorem dX11_lock_58 : decode cX11_lock 58 = .ok (.getfield 136, 3) := by decide +kernel
theorem dX11_lock_61 : decode cX11_lock 61 = .ok (.ireturn, 1) := by decide +kernel
theorem dX11_lock_62 : decode cX11_lock 62 = .ok (.aload_n 3, 1) := by decide +kernel
theorem dX11_lock_63 : decode cX11_lock 63 = .ok (.getfield 139, 3) := by decide +kernel
theorem dX11_lock_66 : decode cX11_lock 66 = .ok (.ireturn, 1) := by decide +kernel
theorem dX11_lock_67 : decode cX11_lock 67 = .ok (.aload_n 3, 1) := by decide +kernel
theorem dX11_lock_68 : decode cX11_lock 68 = .ok (.getfield 142, 3) := by decide +kernel
theorem dX11_lock_71 : decode cX11_lock 71 = .ok (.ireturn, 1) := by decide +kernel
theorem dX11_lock_72 : decode cX11_lock 72 = .ok (.aload_n 0, 1) := by decide +kernel
theorem dX11_lock_73 : decode cX11_lock 73 = .ok (.getfield 26, 3) := by decide +kernel
theorem dX11_lock_76 : decode cX11_lock 76 = .ok (.iload_n 1, 1) := by decide +kernel
theorem dX11_lock_77 : decode cX11_lock 77 = .ok (.invokevirtual 145, 3) := by decide +kernel
theorem dX11_lock_80 : decode cX11_lock 80 = .ok (.ifCond .eq 7, 3) := by decide +kernel
theorem dX11_lock_83 : decode cX11_lock 83 = .ok (.iconst 1, 1) := by decide +kernel
theorem dX11_lock_84 : decode cX11_lock 84 = .ok (.goto 4, 3) := by decide +kernel
theorem dX11_lock_87 : decode cX11_lock 87 = .ok (.iconst 0, 1) := by decide +kernel
theorem dX11_lock_88 : decode cX11_lock 88 = .ok (.ireturn, 1) := by decide +kernel
theorem dX11_lock_89 : decode cX11_lock 89 = .ok (.bipush (-3), 2) := by decide +kernel
theorem dX11_lock_91 : decode cX11_lock 91 = .ok (.ireturn, 1) := by decide +kernel
set_option maxRecDepth 20000 in
theorem ggX11_walker_X1_hasWalker : GoodIn wsX11_walker wsX1_hasWalker := goodIn_r _ [7, 8, 34, 35, 36, 37, 38, 39, 40] rfl (by decide +kernel)
set_option maxRecDepth 20000 in
theorem gX11_walker_X1_hasWalker : GoodIn wsX11_walker (wsV RX11 148 RX1 yX1_hasWalker wsX1_hasWalker) := goodIn_app (goodIn_of _ (by decide +kernel)) ggX11_walker_X1_hasWalker
set_option maxRecDepth 20000 in
theorem ggX11_walker_X9_placeOf : GoodIn wsX11_walker wsX9_placeOf := goodIn_r _ [13, 14, 41, 42, 43, 44, 45, 46, 47] rfl (by decide +kernel)
set_option maxRecDepth 20000 in
theorem gX11_walker_X9_placeOf : GoodIn wsX11_walker (wsV RX11 151 RX9 yX9_placeOf wsX9_placeOf) := goodIn_app (goodIn_of _ (by decide +kernel)) ggX11_walker_X9_placeOf
set_option maxRecDepth 20000 in
theorem ggX11_walker_X9_minuteOf : GoodIn wsX11_walker wsX9_minuteOf := goodIn_r _ [18, 19, 41, 42, 43, 44, 45, 46, 47] rfl (by decide +kernel)
set_option maxRecDepth 20000 in
theorem gX11_walker_X9_minuteOf : GoodIn wsX11_walker (wsV RX11 154 RX9 yX9_minuteOf wsX9_minuteOf) := goodIn_app (goodIn_of _ (by decide +kernel)) ggX11_walker_X9_minuteOf
theorem dX11_walker_0 : decode cX11_walker 0 = .ok (.aload_n 0, 1) := by decide +kernel
theorem dX11_walker_1 : decode cX11_walker 1 = .ok (.getfield 10, 3) := by decide +kernel
theorem dX11_walker_4 : decode cX11_walker 4 = .ok (.iload_n 1, 1) := by decide +kernel
theorem dX11_walker_5 : decode cX11_walker 5 = .ok (.invokevirtual 148, 3) := by decide +kernel
theorem dX11_walker_8 : decode cX11_walker 8 = .ok (.ifCond .ne 6, 3) := by decide +kernel
theorem dX11_walker_11 : decode cX11_walker 11 = .ok (.bipush (-2), 2) := by decide +kernel
theorem dX11_walker_13 : decode cX11_walker 13 = .ok (.ireturn, 1) := by decide +kernel
theorem dX11_walker_14 : decode cX11_walker 14 = .ok (.iload_n 2, 1) := by decide +kernel
theorem dX11_walker_15 : decode cX11_walker 15 = .ok (.lookupswitch 43 #[(0, 25), (1, 34)], 25) := by decide +kernel
theorem dX11_walker_40 : decode cX11_walker 40 = .ok (.aload_n 0, 1) := by decide +kernel
theorem dX11_walker_41 : decode cX11_walker 41 = .ok (.getfield 26, 3) := by decide +kernel
theorem dX11_walker_44 : decode cX11_walker 44 = .ok (.iload_n 1, 1) := by decide +kernel
theorem dX11_walker_45 : decode cX11_walker 45 = .ok (.invokevirtual 151, 3) := by decide +kernel
theorem dX11_walker_48 : decode cX11_walker 48 = .ok (.ireturn, 1) := by decide +kernel
theorem dX11_walker_49 : decode cX11_walker 49 = .ok (.aload_n 0, 1) := by decide +kernel
theorem dX11_walker_50 : decode cX11_walker 50 = .ok (.getfield 26, 3) := by decide +kernel
theorem dX11_walker_53 : decode cX11_walker 53 = .ok (.iload_n 1, 1) := by decide +kernel
theorem dX11_walker_54 : decode cX11_walker 54 = .ok (.invokevirtual 154, 3) := by decide +kernel
theorem dX11_walker_57 : decode cX11_walker 57 = .ok (.ireturn, 1) := by decide +kernel
theorem dX11_walker_58 : decode cX11_walker 58 = .ok (.bipush (-3), 2) := by decide +kernel
theorem dX11_walker_60 : decode cX11_walker 60 = .ok (.ireturn, 1) := by decide +kernel
set_option maxRecDepth 20000 in
theorem ggX11_goes_X1_keyAt : GoodIn wsX11_goes wsX1_keyAt := goodIn_r _ [7, 8, 9, 112, 113, 114, 115, 116, 117, 118] rfl (by decide +kernel)
set_option maxRecDepth 20000 in
theorem gX11_goes_X1_keyAt : GoodIn wsX11_goes (wsV RX11 97 RX1 yX1_keyAt wsX1_keyAt) := goodIn_app (goodIn_of _ (by decide +kernel)) ggX11_goes_X1_keyAt
set_option maxRecDepth 20000 in
theorem ggX11_goes_X1_lockAt : GoodIn wsX11_goes wsX1_lockAt := goodIn_r _ [13, 14, 15, 112, 113, 114, 115, 116, 117, 118] rfl (by decide +kernel)
set_option maxRecDepth 20000 in
theorem gX11_goes_X1_lockAt : GoodIn wsX11_goes (wsV RX11 127 RX1 yX1_lockAt wsX1_lockAt) := goodIn_app (goodIn_of _ (by decide +kernel)) ggX11_goes_X1_lockAt
set_option maxRecDepth 20000 in
theorem ggX11_goes_X9_bentOf : GoodIn wsX11_goes wsX9_bentOf := goodIn_r _ [20, 21, 119, 120, 121, 122, 123, 124, 125] rfl (by decide +kernel)
set_option maxRecDepth 20000 in
theorem gX11_goes_X9_bentOf : GoodIn wsX11_goes (wsV RX11 113 RX9 yX9_bentOf wsX9_bentOf) := goodIn_app (goodIn_of _ (by decide +kernel)) ggX11_goes_X9_bentOf
set_option maxRecDepth 20000 in
theorem ggX11_goes_X0_edge : GoodIn wsX11_goes wsX0_edge := goodIn_r _ [27, 28, 29, 30, 31, 32, 33, 34, 35, 36, 126, 127, 128, 129, 130, 131, 132, 133] rfl (by decide +kernel)
set_option maxRecDepth 20000 in
theorem gX11_goes_X0_edge_u120X0 : GoodIn wsX11_goes (va_wsU RX11 120 RX0 "WardWalkers$Key" ⟨"WardWalkers$Key", "edge", "(I)I"⟩ yX0_edge wsX0_edge) := goodIn_app (goodIn_of _ (by decide +kernel)) ggX11_goes_X0_edge
set_option maxRecDepth 20000 in
theorem ggX11_goes_X2_edge : GoodIn wsX11_goes wsX2_edge := goodIn_r _ [40, 41, 42, 43, 44, 45, 31, 32, 33, 34, 126, 127, 128, 129, 130, 131, 132, 133] rfl (by decide +kernel)
set_option maxRecDepth 20000 in
theorem gX11_goes_X2_edge_u120X2 : GoodIn wsX11_goes (va_wsU RX11 120 RX2 "WardWalkers$Key" ⟨"WardWalkers$Key", "edge", "(I)I"⟩ yX2_edge wsX2_edge) := goodIn_app (goodIn_of _ (by decide +kernel)) ggX11_goes_X2_edge
set_option maxRecDepth 20000 in
theorem gX11_goes_X0_edge_u120X5 : GoodIn wsX11_goes (va_wsU RX11 120 RX5 "WardWalkers$Key" ⟨"WardWalkers$Key", "edge", "(I)I"⟩ yX0_edge wsX0_edge) := goodIn_app (goodIn_of _ (by decide +kernel)) ggX11_goes_X0_edge
set_option maxRecDepth 20000 in
theorem ggX11_goes_X8_edge : GoodIn wsX11_goes wsX8_edge := goodIn_r _ [50, 51, 52, 53, 54, 55, 25, 26, 27, 28, 29, 30, 31, 32, 33, 34, 35, 36, 126, 127, 128, 129, 130, 131, 132, 133] rfl (by decide +kernel)
set_option maxRecDepth 20000 in
theorem gX11_goes_X8_edge_u120X8 : GoodIn wsX11_goes (va_wsU RX11 120 RX8 "WardWalkers$Key" ⟨"WardWalkers$Key", "edge", "(I)I"⟩ yX8_edge wsX8_edge) := goodIn_app (goodIn_of _ (by decide +kernel)) ggX11_goes_X8_edge
set_option maxRecDepth 20000 in
theorem ggX11_goes_X4_lackingIn : GoodIn wsX11_goes wsX4_lackingIn := goodIn_r _ [60, 61, 62, 63, 64, 65, 66, 67, 68, 134, 135, 136, 137] rfl (by decide +kernel)
set_option maxRecDepth 20000 in
theorem gX11_goes_X4_lackingIn : GoodIn wsX11_goes (wsV RX11 157 RX4 yX4_lackingIn wsX4_lackingIn) := goodIn_app (goodIn_of _ (by decide +kernel)) ggX11_goes_X4_lackingIn
set_option maxRecDepth 20000 in
theorem ggX11_goes_X4_overIn : GoodIn wsX11_goes wsX4_overIn := goodIn_r _ [72, 61, 62, 63, 64, 65, 66, 67, 68, 134, 135, 136, 137] rfl (by decide +kernel)
set_option maxRecDepth 20000 in
theorem gX11_goes_X4_overIn : GoodIn wsX11_goes (wsV RX11 160 RX4 yX4_overIn wsX4_overIn) := goodIn_app (goodIn_of _ (by decide +kernel)) ggX11_goes_X4_overIn
set_option maxRecDepth 20000 in
theorem ggX11_goes_X4_letsIn : GoodIn wsX11_goes wsX4_letsIn := goodIn_r _ [76, 77, 78, 23, 24, 25, 26, 27, 28, 29, 30, 31, 32, 33, 34, 35, 36, 37, 38, 39, 40, 41, 42, 43, 44, 45, 46, 47, 48, 49, 50, 51, 52, 53, 54, 55, 79, 57, 58, 59, 60, 61, 62, 63, 64, 65, 66, 67, 68, 80, 70, 71, 72, 81, 82, 83, 84, 85, 86, 87, 88, 89, 90, 91, 92, 93, 94, 95, 96, 97, 134, 135, 136, 137, 126, 127, 128, 129, 130, 131, 132, 133] rfl (by decide +kernel)
set_option maxRecDepth 20000 in
theorem gX11_goes_X4_letsIn : GoodIn wsX11_goes (wsV RX11 163 RX4 yX4_letsIn wsX4_letsIn) := goodIn_app (goodIn_of _ (by decide +kernel)) ggX11_goes_X4_letsIn
theorem dX11_goes_0 : decode cX11_goes 0 = .ok (.aload_n 0, 1) := by decide +kernel
theorem dX11_goes_1 : decode cX11_goes 1 = .ok (.getfield 10, 3) := by decide +kernel
theorem dX11_goes_4 : decode cX11_goes 4 = .ok (.iload_n 1, 1) := by decide +kernel
theorem dX11_goes_5 : decode cX11_goes 5 = .ok (.invokevirtual 97, 3) := by decide +kernel
theorem dX11_goes_8 : decode cX11_goes 8 = .ok (.astore 4, 2) := by decide +kernel
theorem dX11_goes_10 : decode cX11_goes 10 = .ok (.aload_n 0, 1) := by decide +kernel
theorem dX11_goes_11 : decode cX11_goes 11 = .ok (.getfield 10, 3) := by decide +kernel
theorem dX11_goes_14 : decode cX11_goes 14 = .ok (.iload_n 2, 1) := by decide +kernel
theorem dX11_goes_15 : decode cX11_goes 15 = .ok (.invokevirtual 127, 3) := by decide +kernel
theorem dX11_goes_18 : decode cX11_goes 18 = .ok (.astore 5, 2) := by decide +kernel
theorem dX11_goes_20 : decode cX11_goes 20 = .ok (.aload 4, 2) := by decide +kernel
theorem dX11_goes_22 : decode cX11_goes 22 = .ok (.ifnull 8, 3) := by decide +kernel
theorem dX11_goes_25 : decode cX11_goes 25 = .ok (.aload 5, 2) := by decide +kernel
theorem dX11_goes_27 : decode cX11_goes 27 = .ok (.ifnonnull 6, 3) := by decide +kernel
theorem dX11_goes_30 : decode cX11_goes 30 = .ok (.bipush (-2), 2) := by decide +kernel
theorem dX11_goes_32 : decode cX11_goes 32 = .ok (.ireturn, 1) := by decide +kernel
theorem dX11_goes_33 : decode cX11_goes 33 = .ok (.aload_n 0, 1) := by decide +kernel
theorem dX11_goes_34 : decode cX11_goes 34 = .ok (.getfield 26, 3) := by decide +kernel
theorem dX11_goes_37 : decode cX11_goes 37 = .ok (.iload_n 1, 1) := by decide +kernel
theorem dX11_goes_38 : decode cX11_goes 38 = .ok (.invokevirtual 113, 3) := by decide +kernel
theorem dX11_goes_41 : decode cX11_goes 41 = .ok (.istore 6, 2) := by decide +kernel
theorem dX11_goes_43 : decode cX11_goes 43 = .ok (.iload_n 3, 1) := by decide +kernel
theorem dX11_goes_44 : decode cX11_goes 44 = .ok (.tableswitch 72 0 2 #[28, 41, 54], 28) := by decide +kernel
theorem dX11_goes_72 : decode cX11_goes 72 = .ok (.aload 5, 2) := by decide +kernel
theorem dX11_goes_74 : decode cX11_goes 74 = .ok (.aload 4, 2) := by decide +kernel
theorem dX11_goes_76 : decode cX11_goes 76 = .ok (.iload 6, 2) := by decide +kernel
theorem dX11_goes_78 : decode cX11_goes 78 = .ok (.invokevirtual 120, 3) := by decide +kernel
theorem dX11_goes_81 : decode cX11_goes 81 = .ok (.invokevirtual 157, 3) := by decide +kernel
theorem dX11_goes_84 : decode cX11_goes 84 = .ok (.ireturn, 1) := by decide +kernel
theorem dX11_goes_85 : decode cX11_goes 85 = .ok (.aload 5, 2) := by decide +kernel
theorem dX11_goes_87 : decode cX11_goes 87 = .ok (.aload 4, 2) := by decide +kernel
theorem dX11_goes_89 : decode cX11_goes 89 = .ok (.iload 6, 2) := by decide +kernel
theorem dX11_goes_91 : decode cX11_goes 91 = .ok (.invokevirtual 120, 3) := by decide +kernel
theorem dX11_goes_94 : decode cX11_goes 94 = .ok (.invokevirtual 160, 3) := by decide +kernel
theorem dX11_goes_97 : decode cX11_goes 97 = .ok (.ireturn, 1) := by decide +kernel
theorem dX11_goes_98 : decode cX11_goes 98 = .ok (.aload 5, 2) := by decide +kernel
theorem dX11_goes_100 : decode cX11_goes 100 = .ok (.aload 4, 2) := by decide +kernel
theorem dX11_goes_102 : decode cX11_goes 102 = .ok (.iload 6, 2) := by decide +kernel
theorem dX11_goes_104 : decode cX11_goes 104 = .ok (.invokevirtual 163, 3) := by decide +kernel
theorem dX11_goes_107 : decode cX11_goes 107 = .ok (.ifCond .eq 7, 3) := by decide +kernel
theorem dX11_goes_110 : decode cX11_goes 110 = .ok (.iconst 1, 1) := by decide +kernel
theorem dX11_goes_111 : decode cX11_goes 111 = .ok (.goto 4, 3) := by decide +kernel
theorem dX11_goes_114 : decode cX11_goes 114 = .ok (.iconst 0, 1) := by decide +kernel
theorem dX11_goes_115 : decode cX11_goes 115 = .ok (.ireturn, 1) := by decide +kernel
theorem dX11_goes_116 : decode cX11_goes 116 = .ok (.bipush (-3), 2) := by decide +kernel
theorem dX11_goes_118 : decode cX11_goes 118 = .ok (.ireturn, 1) := by decide +kernel
set_option maxRecDepth 20000 in
theorem ggX11_as_X1_keyAt : GoodIn wsX11_as wsX1_keyAt := goodIn_r _ [6, 7, 8, 52, 53, 54, 55, 56, 57, 58] rfl (by decide +kernel)
set_option maxRecDepth 20000 in
theorem gX11_as_X1_keyAt : GoodIn wsX11_as (wsV RX11 97 RX1 yX1_keyAt wsX1_keyAt) := goodIn_app (goodIn_of _ (by decide +kernel)) ggX11_as_X1_keyAt
set_option maxRecDepth 20000 in
theorem ggX11_as_X11_isOfKind : GoodIn wsX11_as wsX11_isOfKind := goodIn_r _ [12, 13, 14, 15, 16] rfl (by decide +kernel)
set_option maxRecDepth 20000 in
theorem gX11_as_X11_isOfKind : GoodIn wsX11_as (va_wsS RX11 167 yX11_isOfKind wsX11_isOfKind) := goodIn_app (goodIn_of _ (by decide +kernel)) ggX11_as_X11_isOfKind
set_option maxRecDepth 20000 in
theorem ggX11_as_X0_room : GoodIn wsX11_as wsX0_room := goodIn_r _ [22] rfl (by decide +kernel)
set_option maxRecDepth 20000 in
theorem gX11_as_X0_room_u170X0 : GoodIn wsX11_as (va_wsU RX11 170 RX0 "WardWalkers$Key" ⟨"WardWalkers$Key", "room", "(I)I"⟩ yX0_room wsX0_room) := goodIn_app (goodIn_of _ (by decide +kernel)) ggX11_as_X0_room
set_option maxRecDepth 20000 in
theorem ggX11_as_X2_room : GoodIn wsX11_as wsX2_room := goodIn_r _ [26] rfl (by decide +kernel)
set_option maxRecDepth 20000 in
theorem gX11_as_X2_room_u170X2 : GoodIn wsX11_as (va_wsU RX11 170 RX2 "WardWalkers$Key" ⟨"WardWalkers$Key", "room", "(I)I"⟩ yX2_room wsX2_room) := goodIn_app (goodIn_of _ (by decide +kernel)) ggX11_as_X2_room
set_option maxRecDepth 20000 in
theorem ggX11_as_X5_room : GoodIn wsX11_as wsX5_room := goodIn_r _ [30] rfl (by decide +kernel)
set_option maxRecDepth 20000 in
theorem gX11_as_X5_room_u170X5 : GoodIn wsX11_as (va_wsU RX11 170 RX5 "WardWalkers$Key" ⟨"WardWalkers$Key", "room", "(I)I"⟩ yX5_room wsX5_room) := goodIn_app (goodIn_of _ (by decide +kernel)) ggX11_as_X5_room
set_option maxRecDepth 20000 in
theorem ggX11_as_X8_room : GoodIn wsX11_as wsX8_room := goodIn_r _ [34, 35, 36, 37, 20, 21, 22] rfl (by decide +kernel)
set_option maxRecDepth 20000 in
theorem gX11_as_X8_room_u170X8 : GoodIn wsX11_as (va_wsU RX11 170 RX8 "WardWalkers$Key" ⟨"WardWalkers$Key", "room", "(I)I"⟩ yX8_room wsX8_room) := goodIn_app (goodIn_of _ (by decide +kernel)) ggX11_as_X8_room
theorem dX11_as_0 : decode cX11_as 0 = .ok (.aload_n 0, 1) := by decide +kernel
theorem dX11_as_1 : decode cX11_as 1 = .ok (.getfield 10, 3) := by decide +kernel
theorem dX11_as_4 : decode cX11_as 4 = .ok (.iload_n 1, 1) := by decide +kernel
theorem dX11_as_5 : decode cX11_as 5 = .ok (.invokevirtual 97, 3) := by decide +kernel
theorem dX11_as_8 : decode cX11_as 8 = .ok (.astore_n 3, 1) := by decide +kernel
theorem dX11_as_9 : decode cX11_as 9 = .ok (.aload_n 3, 1) := by decide +kernel
theorem dX11_as_10 : decode cX11_as 10 = .ok (.ifnonnull 6, 3) := by decide +kernel
theorem dX11_as_13 : decode cX11_as 13 = .ok (.bipush (-2), 2) := by decide +kernel
theorem dX11_as_15 : decode cX11_as 15 = .ok (.ireturn, 1) := by decide +kernel
theorem dX11_as_16 : decode cX11_as 16 = .ok (.iload_n 2, 1) := by decide +kernel
theorem dX11_as_17 : decode cX11_as 17 = .ok (.ifCond .lt 8, 3) := by decide +kernel
theorem dX11_as_20 : decode cX11_as 20 = .ok (.iload_n 2, 1) := by decide +kernel
theorem dX11_as_21 : decode cX11_as 21 = .ok (.iconst 4, 1) := by decide +kernel
theorem dX11_as_22 : decode cX11_as 22 = .ok (.if_icmp .le 6, 3) := by decide +kernel
theorem dX11_as_25 : decode cX11_as 25 = .ok (.bipush (-3), 2) := by decide +kernel
theorem dX11_as_27 : decode cX11_as 27 = .ok (.ireturn, 1) := by decide +kernel
theorem dX11_as_28 : decode cX11_as 28 = .ok (.aload_n 3, 1) := by decide +kernel
theorem dX11_as_29 : decode cX11_as 29 = .ok (.iload_n 2, 1) := by decide +kernel
theorem dX11_as_30 : decode cX11_as 30 = .ok (.invokestatic 167, 3) := by decide +kernel
theorem dX11_as_33 : decode cX11_as 33 = .ok (.ifCond .eq 11, 3) := by decide +kernel
theorem dX11_as_36 : decode cX11_as 36 = .ok (.aload_n 3, 1) := by decide +kernel
theorem dX11_as_37 : decode cX11_as 37 = .ok (.iconst 3, 1) := by decide +kernel
theorem dX11_as_38 : decode cX11_as 38 = .ok (.invokevirtual 170, 3) := by decide +kernel
theorem dX11_as_41 : decode cX11_as 41 = .ok (.goto 5, 3) := by decide +kernel
theorem dX11_as_44 : decode cX11_as 44 = .ok (.bipush (-4), 2) := by decide +kernel
theorem dX11_as_46 : decode cX11_as 46 = .ok (.ireturn, 1) := by decide +kernel
set_option maxRecDepth 20000 in
theorem ggX11_tries_X1_keyAt : GoodIn wsX11_tries wsX1_keyAt := goodIn_r _ [11, 12, 13, 196, 197, 198, 199, 200, 201, 202] rfl (by decide +kernel)
set_option maxRecDepth 20000 in
theorem gX11_tries_X1_keyAt : GoodIn wsX11_tries (wsV RX11 97 RX1 yX1_keyAt wsX1_keyAt) := goodIn_app (goodIn_of _ (by decide +kernel)) ggX11_tries_X1_keyAt
set_option maxRecDepth 20000 in
theorem ggX11_tries_X1_lockAt : GoodIn wsX11_tries wsX1_lockAt := goodIn_r _ [17, 18, 19, 196, 197, 198, 199, 200, 201, 202] rfl (by decide +kernel)
set_option maxRecDepth 20000 in
theorem gX11_tries_X1_lockAt : GoodIn wsX11_tries (wsV RX11 127 RX1 yX1_lockAt wsX1_lockAt) := goodIn_app (goodIn_of _ (by decide +kernel)) ggX11_tries_X1_lockAt
set_option maxRecDepth 20000 in
theorem ggX11_tries_X1_hasWalker : GoodIn wsX11_tries wsX1_hasWalker := goodIn_r _ [23, 24, 196, 197, 198, 199, 200, 201, 202] rfl (by decide +kernel)
set_option maxRecDepth 20000 in
theorem gX11_tries_X1_hasWalker : GoodIn wsX11_tries (wsV RX11 148 RX1 yX1_hasWalker wsX1_hasWalker) := goodIn_app (goodIn_of _ (by decide +kernel)) ggX11_tries_X1_hasWalker
set_option maxRecDepth 20000 in
theorem ggX11_tries_X9_minuteOf : GoodIn wsX11_tries wsX9_minuteOf := goodIn_r _ [29, 30, 203, 204, 205, 206, 207, 208, 209] rfl (by decide +kernel)
set_option maxRecDepth 20000 in
theorem gX11_tries_X9_minuteOf : GoodIn wsX11_tries (wsV RX11 154 RX9 yX9_minuteOf wsX9_minuteOf) := goodIn_app (goodIn_of _ (by decide +kernel)) ggX11_tries_X9_minuteOf
set_option maxRecDepth 20000 in
theorem ggX11_tries_X9_placeOf : GoodIn wsX11_tries wsX9_placeOf := goodIn_r _ [34, 35, 203, 204, 205, 206, 207, 208, 209] rfl (by decide +kernel)
set_option maxRecDepth 20000 in
theorem gX11_tries_X9_placeOf : GoodIn wsX11_tries (wsV RX11 151 RX9 yX9_placeOf wsX9_placeOf) := goodIn_app (goodIn_of _ (by decide +kernel)) ggX11_tries_X9_placeOf
set_option maxRecDepth 20000 in
theorem ggX11_tries_X11_minutesBetween : GoodIn wsX11_tries wsX11_minutesBetween := goodIn_r _ [39, 40, 41, 42, 43] rfl (by decide +kernel)
set_option maxRecDepth 20000 in
theorem gX11_tries_X11_minutesBetween : GoodIn wsX11_tries (va_wsS RX11 173 yX11_minutesBetween wsX11_minutesBetween) := goodIn_app (goodIn_of _ (by decide +kernel)) ggX11_tries_X11_minutesBetween
set_option maxRecDepth 20000 in
theorem ggX11_tries_X11_isBroken : GoodIn wsX11_tries wsX11_isBroken := goodIn_r _ [47, 2, 48, 49, 50, 28, 51, 52, 178, 179, 180, 181, 182, 183, 184, 185, 186, 187, 188, 189, 190, 191, 203, 204, 205, 206, 207, 208, 209] rfl (by decide +kernel)
set_option maxRecDepth 20000 in
theorem gX11_tries_X11_isBroken : GoodIn wsX11_tries (wsV RX11 123 RX11 yX11_isBroken wsX11_isBroken) := goodIn_app (goodIn_of _ (by decide +kernel)) ggX11_tries_X11_isBroken
set_option maxRecDepth 20000 in
theorem ggX11_tries_X9_isOpen : GoodIn wsX11_tries wsX9_isOpen := goodIn_r _ [56, 57, 203, 204, 205, 206, 207, 208, 209] rfl (by decide +kernel)
set_option maxRecDepth 20000 in
theorem gX11_tries_X9_isOpen : GoodIn wsX11_tries (wsV RX11 145 RX9 yX9_isOpen wsX9_isOpen) := goodIn_app (goodIn_of _ (by decide +kernel)) ggX11_tries_X9_isOpen
set_option maxRecDepth 20000 in
theorem ggX11_tries_X11_remember : GoodIn wsX11_tries wsX11_remember := goodIn_r _ [61, 62, 2, 63, 64, 65, 42, 66, 67, 68, 69, 38, 70, 71, 72, 73, 74, 75, 76, 77, 78, 28, 79, 80, 81, 57, 82, 52, 35, 30, 178, 179, 180, 181, 182, 183, 184, 185, 186, 187, 188, 189, 190, 191, 203, 204, 205, 206, 207, 208, 209] rfl (by decide +kernel)
set_option maxRecDepth 20000 in
theorem gX11_tries_X11_remember : GoodIn wsX11_tries (wsV RX11 180 RX11 yX11_remember wsX11_remember) := goodIn_app (goodIn_of _ (by decide +kernel)) ggX11_tries_X11_remember
set_option maxRecDepth 20000 in
theorem ggX11_tries_X9_stand : GoodIn wsX11_tries wsX9_stand := goodIn_r _ [86, 35, 30, 203, 204, 205, 206, 207, 208, 209] rfl (by decide +kernel)
set_option maxRecDepth 20000 in
theorem gX11_tries_X9_stand : GoodIn wsX11_tries (wsV RX11 183 RX9 yX9_stand wsX9_stand) := goodIn_app (goodIn_of _ (by decide +kernel)) ggX11_tries_X9_stand
set_option maxRecDepth 20000 in
theorem ggX11_tries_X9_bentOf : GoodIn wsX11_tries wsX9_bentOf := goodIn_r _ [90, 82, 203, 204, 205, 206, 207, 208, 209] rfl (by decide +kernel)
set_option maxRecDepth 20000 in
theorem gX11_tries_X9_bentOf : GoodIn wsX11_tries (wsV RX11 113 RX9 yX9_bentOf wsX9_bentOf) := goodIn_app (goodIn_of _ (by decide +kernel)) ggX11_tries_X9_bentOf
set_option maxRecDepth 20000 in
theorem ggX11_tries_X4_letsIn : GoodIn wsX11_tries wsX4_letsIn := goodIn_r _ [95, 96, 97, 98, 99, 100, 101, 102, 103, 104, 105, 106, 107, 108, 109, 110, 111, 112, 113, 114, 115, 116, 117, 118, 119, 120, 121, 122, 123, 124, 125, 126, 127, 128, 129, 130, 131, 132, 133, 94, 134, 135, 136, 137, 138, 139, 140, 141, 142, 143, 144, 145, 146, 147, 148, 149, 150, 151, 152, 153, 154, 155, 156, 157, 158, 159, 160, 161, 162, 163, 192, 193, 194, 195, 210, 211, 212, 213, 214, 215, 216, 217] rfl (by decide +kernel)
set_option maxRecDepth 20000 in
theorem gX11_tries_X4_letsIn : GoodIn wsX11_tries (wsV RX11 163 RX4 yX4_letsIn wsX4_letsIn) := goodIn_app (goodIn_of _ (by decide +kernel)) ggX11_tries_X4_letsIn
set_option maxRecDepth 20000 in
theorem ggX11_tries_X9_turn : GoodIn wsX11_tries wsX9_turn := goodIn_r _ [167, 52, 203, 204, 205, 206, 207, 208, 209] rfl (by decide +kernel)
set_option maxRecDepth 20000 in
theorem gX11_tries_X9_turn : GoodIn wsX11_tries (wsV RX11 187 RX9 yX9_turn wsX9_turn) := goodIn_app (goodIn_of _ (by decide +kernel)) ggX11_tries_X9_turn
set_option maxRecDepth 20000 in
theorem ggX11_tries_X9_open : GoodIn wsX11_tries wsX9_open := goodIn_r _ [171, 57, 81, 203, 204, 205, 206, 207, 208, 209] rfl (by decide +kernel)
set_option maxRecDepth 20000 in
theorem gX11_tries_X9_open : GoodIn wsX11_tries (wsV RX11 190 RX9 yX9_open wsX9_open) := goodIn_app (goodIn_of _ (by decide +kernel)) ggX11_tries_X9_open
set_option maxRecDepth 20000 in
theorem ggX11_tries_X0_edge : GoodIn wsX11_tries wsX0_edge := goodIn_r _ [102, 103, 104, 105, 106, 107, 108, 109, 110, 111, 210, 211, 212, 213, 214, 215, 216, 217] rfl (by decide +kernel)
set_option maxRecDepth 20000 in
theorem gX11_tries_X0_edge_u120X0 : GoodIn wsX11_tries (va_wsU RX11 120 RX0 "WardWalkers$Key" ⟨"WardWalkers$Key", "edge", "(I)I"⟩ yX0_edge wsX0_edge) := goodIn_app (goodIn_of _ (by decide +kernel)) ggX11_tries_X0_edge
set_option maxRecDepth 20000 in
theorem ggX11_tries_X2_edge : GoodIn wsX11_tries wsX2_edge := goodIn_r _ [115, 116, 117, 118, 119, 120, 106, 107, 108, 109, 210, 211, 212, 213, 214, 215, 216, 217] rfl (by decide +kernel)
set_option maxRecDepth 20000 in
theorem gX11_tries_X2_edge_u120X2 : GoodIn wsX11_tries (va_wsU RX11 120 RX2 "WardWalkers$Key" ⟨"WardWalkers$Key", "edge", "(I)I"⟩ yX2_edge wsX2_edge) := goodIn_app (goodIn_of _ (by decide +kernel)) ggX11_tries_X2_edge
set_option maxRecDepth 20000 in
theorem gX11_tries_X0_edge_u120X5 : GoodIn wsX11_tries (va_wsU RX11 120 RX5 "WardWalkers$Key" ⟨"WardWalkers$Key", "edge", "(I)I"⟩ yX0_edge wsX0_edge) := goodIn_app (goodIn_of _ (by decide +kernel)) ggX11_tries_X0_edge
set_option maxRecDepth 20000 in
theorem ggX11_tries_X8_edge : GoodIn wsX11_tries wsX8_edge := goodIn_r _ [125, 126, 127, 128, 129, 130, 100, 101, 102, 103, 104, 105, 106, 107, 108, 109, 110, 111, 210, 211, 212, 213, 214, 215, 216, 217] rfl (by decide +kernel)
set_option maxRecDepth 20000 in
theorem gX11_tries_X8_edge_u120X8 : GoodIn wsX11_tries (va_wsU RX11 120 RX8 "WardWalkers$Key" ⟨"WardWalkers$Key", "edge", "(I)I"⟩ yX8_edge wsX8_edge) := goodIn_app (goodIn_of _ (by decide +kernel)) ggX11_tries_X8_edge
set_option maxRecDepth 20000 in
theorem ggX11_tries_X4_lackingIn : GoodIn wsX11_tries wsX4_lackingIn := goodIn_r _ [134, 135, 136, 137, 138, 139, 140, 141, 142, 192, 193, 194, 195] rfl (by decide +kernel)
set_option maxRecDepth 20000 in
theorem gX11_tries_X4_lackingIn : GoodIn wsX11_tries (wsV RX11 157 RX4 yX4_lackingIn wsX4_lackingIn) := goodIn_app (goodIn_of _ (by decide +kernel)) ggX11_tries_X4_lackingIn
set_option maxRecDepth 20000 in
theorem ggX11_tries_X9_bend : GoodIn wsX11_tries wsX9_bend := goodIn_r _ [177, 82, 203, 204, 205, 206, 207, 208, 209] rfl (by decide +kernel)
set_option maxRecDepth 20000 in
theorem gX11_tries_X9_bend : GoodIn wsX11_tries (wsV RX11 196 RX9 yX9_bend wsX9_bend) := goodIn_app (goodIn_of _ (by decide +kernel)) ggX11_tries_X9_bend
theorem dX11_tries_0 : decode cX11_tries 0 = .ok (.aload_n 0, 1) := by decide +kernel
theorem dX11_tries_1 : decode cX11_tries 1 = .ok (.getfield 10, 3) := by decide +kernel
theorem dX11_tries_4 : decode cX11_tries 4 = .ok (.iload_n 2, 1) := by decide +kernel
theorem dX11_tries_5 : decode cX11_tries 5 = .ok (.invokevirtual 97, 3) := by decide +kernel
theorem dX11_tries_8 : decode cX11_tries 8 = .ok (.astore 4, 2) := by decide +kernel
theorem dX11_tries_10 : decode cX11_tries 10 = .ok (.aload_n 0, 1) := by decide +kernel
theorem dX11_tries_11 : decode cX11_tries 11 = .ok (.getfield 10, 3) := by decide +kernel
theorem dX11_tries_14 : decode cX11_tries 14 = .ok (.iload_n 3, 1) := by decide +kernel
theorem dX11_tries_15 : decode cX11_tries 15 = .ok (.invokevirtual 127, 3) := by decide +kernel
theorem dX11_tries_18 : decode cX11_tries 18 = .ok (.astore 5, 2) := by decide +kernel
theorem dX11_tries_20 : decode cX11_tries 20 = .ok (.aload 4, 2) := by decide +kernel
theorem dX11_tries_22 : decode cX11_tries 22 = .ok (.ifnull 19, 3) := by decide +kernel
theorem dX11_tries_25 : decode cX11_tries 25 = .ok (.aload 5, 2) := by decide +kernel
theorem dX11_tries_27 : decode cX11_tries 27 = .ok (.ifnull 14, 3) := by decide +kernel
theorem dX11_tries_30 : decode cX11_tries 30 = .ok (.aload_n 0, 1) := by decide +kernel
theorem dX11_tries_31 : decode cX11_tries 31 = .ok (.getfield 10, 3) := by decide +kernel
theorem dX11_tries_34 : decode cX11_tries 34 = .ok (.iload_n 1, 1) := by decide +kernel
theorem dX11_tries_35 : decode cX11_tries 35 = .ok (.invokevirtual 148, 3) := by decide +kernel
theorem dX11_tries_38 : decode cX11_tries 38 = .ok (.ifCond .ne 6, 3) := by decide +kernel
theorem dX11_tries_41 : decode cX11_tries 41 = .ok (.bipush (-2), 2) := by decide +kernel
theorem dX11_tries_43 : decode cX11_tries 43 = .ok (.ireturn, 1) := by decide +kernel
theorem dX11_tries_44 : decode cX11_tries 44 = .ok (.aload_n 0, 1) := by decide +kernel
theorem dX11_tries_45 : decode cX11_tries 45 = .ok (.getfield 26, 3) := by decide +kernel
theorem dX11_tries_48 : decode cX11_tries 48 = .ok (.iload_n 1, 1) := by decide +kernel
theorem dX11_tries_49 : decode cX11_tries 49 = .ok (.invokevirtual 154, 3) := by decide +kernel
theorem dX11_tries_52 : decode cX11_tries 52 = .ok (.aload_n 0, 1) := by decide +kernel
theorem dX11_tries_53 : decode cX11_tries 53 = .ok (.getfield 26, 3) := by decide +kernel
theorem dX11_tries_56 : decode cX11_tries 56 = .ok (.iload_n 1, 1) := by decide +kernel
theorem dX11_tries_57 : decode cX11_tries 57 = .ok (.invokevirtual 151, 3) := by decide +kernel
theorem dX11_tries_60 : decode cX11_tries 60 = .ok (.aload 5, 2) := by decide +kernel
theorem dX11_tries_62 : decode cX11_tries 62 = .ok (.getfield 131, 3) := by decide +kernel
theorem dX11_tries_65 : decode cX11_tries 65 = .ok (.invokestatic 173, 3) := by decide +kernel
theorem dX11_tries_68 : decode cX11_tries 68 = .ok (.iadd, 1) := by decide +kernel
theorem dX11_tries_69 : decode cX11_tries 69 = .ok (.iconst 2, 1) := by decide +kernel
theorem dX11_tries_70 : decode cX11_tries 70 = .ok (.iadd, 1) := by decide +kernel
theorem dX11_tries_71 : decode cX11_tries 71 = .ok (.istore 6, 2) := by decide +kernel
theorem dX11_tries_73 : decode cX11_tries 73 = .ok (.aload_n 0, 1) := by decide +kernel
theorem dX11_tries_74 : decode cX11_tries 74 = .ok (.iload_n 2, 1) := by decide +kernel
theorem dX11_tries_75 : decode cX11_tries 75 = .ok (.invokevirtual 123, 3) := by decide +kernel
theorem dX11_tries_78 : decode cX11_tries 78 = .ok (.ifCond .ne 26, 3) := by decide +kernel
theorem dX11_tries_81 : decode cX11_tries 81 = .ok (.aload_n 0, 1) := by decide +kernel
theorem dX11_tries_82 : decode cX11_tries 82 = .ok (.getfield 26, 3) := by decide +kernel
theorem dX11_tries_85 : decode cX11_tries 85 = .ok (.iload_n 3, 1) := by decide +kernel
theorem dX11_tries_86 : decode cX11_tries 86 = .ok (.invokevirtual 145, 3) := by decide +kernel
theorem dX11_tries_89 : decode cX11_tries 89 = .ok (.ifCond .ne 15, 3) := by decide +kernel
theorem dX11_tries_92 : decode cX11_tries 92 = .ok (.iload 6, 2) := by decide +kernel
theorem dX11_tries_94 : decode cX11_tries 94 = .ok (.aload_n 0, 1) := by decide +kernel
theorem dX11_tries_95 : decode cX11_tries 95 = .ok (.getfield 10, 3) := by decide +kernel
theorem dX11_tries_98 : decode cX11_tries 98 = .ok (.getfield 177, 3) := by decide +kernel
theorem dX11_tries_101 : decode cX11_tries 101 = .ok (.if_icmp .le 6, 3) := by decide +kernel
theorem dX11_tries_104 : decode cX11_tries 104 = .ok (.bipush (-4), 2) := by decide +kernel
theorem dX11_tries_106 : decode cX11_tries 106 = .ok (.ireturn, 1) := by decide +kernel
theorem dX11_tries_107 : decode cX11_tries 107 = .ok (.aload_n 0, 1) := by decide +kernel
theorem dX11_tries_108 : decode cX11_tries 108 = .ok (.invokevirtual 180, 3) := by decide +kernel
theorem dX11_tries_111 : decode cX11_tries 111 = .ok (.aload_n 0, 1) := by decide +kernel
theorem dX11_tries_112 : decode cX11_tries 112 = .ok (.getfield 26, 3) := by decide +kernel
theorem dX11_tries_115 : decode cX11_tries 115 = .ok (.iload_n 1, 1) := by decide +kernel
theorem dX11_tries_116 : decode cX11_tries 116 = .ok (.aload 5, 2) := by decide +kernel
theorem dX11_tries_118 : decode cX11_tries 118 = .ok (.getfield 131, 3) := by decide +kernel
theorem dX11_tries_121 : decode cX11_tries 121 = .ok (.iload 6, 2) := by decide +kernel
theorem dX11_tries_123 : decode cX11_tries 123 = .ok (.invokevirtual 183, 3) := by decide +kernel
theorem dX11_tries_126 : decode cX11_tries 126 = .ok (.aload_n 0, 1) := by decide +kernel
theorem dX11_tries_127 : decode cX11_tries 127 = .ok (.getfield 26, 3) := by decide +kernel
theorem dX11_tries_130 : decode cX11_tries 130 = .ok (.iload_n 2, 1) := by decide +kernel
theorem dX11_tries_131 : decode cX11_tries 131 = .ok (.invokevirtual 113, 3) := by decide +kernel
theorem dX11_tries_134 : decode cX11_tries 134 = .ok (.istore 7, 2) := by decide +kernel
theorem dX11_tries_136 : decode cX11_tries 136 = .ok (.aload 5, 2) := by decide +kernel
theorem dX11_tries_138 : decode cX11_tries 138 = .ok (.aload 4, 2) := by decide +kernel
theorem dX11_tries_140 : decode cX11_tries 140 = .ok (.iload 7, 2) := by decide +kernel
theorem dX11_tries_142 : decode cX11_tries 142 = .ok (.invokevirtual 163, 3) := by decide +kernel
theorem dX11_tries_145 : decode cX11_tries 145 = .ok (.ifCond .eq 26, 3) := by decide +kernel
theorem dX11_tries_148 : decode cX11_tries 148 = .ok (.aload_n 0, 1) := by decide +kernel
theorem dX11_tries_149 : decode cX11_tries 149 = .ok (.getfield 26, 3) := by decide +kernel
theorem dX11_tries_152 : decode cX11_tries 152 = .ok (.iload_n 2, 1) := by decide +kernel
theorem dX11_tries_153 : decode cX11_tries 153 = .ok (.invokevirtual 187, 3) := by decide +kernel
theorem dX11_tries_156 : decode cX11_tries 156 = .ok (.aload_n 0, 1) := by decide +kernel
theorem dX11_tries_157 : decode cX11_tries 157 = .ok (.getfield 26, 3) := by decide +kernel
theorem dX11_tries_160 : decode cX11_tries 160 = .ok (.iload_n 3, 1) := by decide +kernel
theorem dX11_tries_161 : decode cX11_tries 161 = .ok (.aload 5, 2) := by decide +kernel
theorem dX11_tries_163 : decode cX11_tries 163 = .ok (.getfield 142, 3) := by decide +kernel
theorem dX11_tries_166 : decode cX11_tries 166 = .ok (.invokevirtual 190, 3) := by decide +kernel
theorem dX11_tries_169 : decode cX11_tries 169 = .ok (.iconst 2, 1) := by decide +kernel
theorem dX11_tries_170 : decode cX11_tries 170 = .ok (.ireturn, 1) := by decide +kernel
theorem dX11_tries_171 : decode cX11_tries 171 = .ok (.aload 5, 2) := by decide +kernel
theorem dX11_tries_173 : decode cX11_tries 173 = .ok (.aload 4, 2) := by decide +kernel
theorem dX11_tries_175 : decode cX11_tries 175 = .ok (.iload 7, 2) := by decide +kernel
theorem dX11_tries_177 : decode cX11_tries 177 = .ok (.invokevirtual 120, 3) := by decide +kernel
theorem dX11_tries_180 : decode cX11_tries 180 = .ok (.invokevirtual 157, 3) := by decide +kernel
theorem dX11_tries_183 : decode cX11_tries 183 = .ok (.iconst 1, 1) := by decide +kernel
theorem dX11_tries_184 : decode cX11_tries 184 = .ok (.if_icmp .ne 21, 3) := by decide +kernel
theorem dX11_tries_187 : decode cX11_tries 187 = .ok (.aload 4, 2) := by decide +kernel
theorem dX11_tries_189 : decode cX11_tries 189 = .ok (.instanceof 194, 3) := by decide +kernel
theorem dX11_tries_192 : decode cX11_tries 192 = .ok (.ifCond .ne 13, 3) := by decide +kernel
theorem dX11_tries_195 : decode cX11_tries 195 = .ok (.aload_n 0, 1) := by decide +kernel
theorem dX11_tries_196 : decode cX11_tries 196 = .ok (.getfield 26, 3) := by decide +kernel
theorem dX11_tries_199 : decode cX11_tries 199 = .ok (.iload_n 2, 1) := by decide +kernel
theorem dX11_tries_200 : decode cX11_tries 200 = .ok (.invokevirtual 196, 3) := by decide +kernel
theorem dX11_tries_203 : decode cX11_tries 203 = .ok (.iconst 1, 1) := by decide +kernel
theorem dX11_tries_204 : decode cX11_tries 204 = .ok (.ireturn, 1) := by decide +kernel
theorem dX11_tries_205 : decode cX11_tries 205 = .ok (.iconst 0, 1) := by decide +kernel
theorem dX11_tries_206 : decode cX11_tries 206 = .ok (.ireturn, 1) := by decide +kernel
set_option maxRecDepth 20000 in
theorem ggX11_shut_X1_lockAt : GoodIn wsX11_shut wsX1_lockAt := goodIn_r _ [8, 9, 10, 69, 70, 71, 72, 73, 74, 75] rfl (by decide +kernel)
set_option maxRecDepth 20000 in
theorem gX11_shut_X1_lockAt : GoodIn wsX11_shut (wsV RX11 127 RX1 yX1_lockAt wsX1_lockAt) := goodIn_app (goodIn_of _ (by decide +kernel)) ggX11_shut_X1_lockAt
set_option maxRecDepth 20000 in
theorem ggX11_shut_X9_isOpen : GoodIn wsX11_shut wsX9_isOpen := goodIn_r _ [15, 16, 76, 77, 78, 79, 80, 81, 82] rfl (by decide +kernel)
set_option maxRecDepth 20000 in
theorem gX11_shut_X9_isOpen : GoodIn wsX11_shut (wsV RX11 145 RX9 yX9_isOpen wsX9_isOpen) := goodIn_app (goodIn_of _ (by decide +kernel)) ggX11_shut_X9_isOpen
set_option maxRecDepth 20000 in
theorem ggX11_shut_X11_remember : GoodIn wsX11_shut wsX11_remember := goodIn_r _ [21, 22, 2, 23, 24, 25, 26, 27, 28, 29, 30, 20, 31, 32, 33, 34, 35, 36, 37, 38, 39, 14, 40, 41, 42, 16, 43, 44, 45, 46, 51, 52, 53, 54, 55, 56, 57, 58, 59, 60, 61, 62, 63, 64, 76, 77, 78, 79, 80, 81, 82] rfl (by decide +kernel)
set_option maxRecDepth 20000 in
theorem gX11_shut_X11_remember : GoodIn wsX11_shut (wsV RX11 180 RX11 yX11_remember wsX11_remember) := goodIn_app (goodIn_of _ (by decide +kernel)) ggX11_shut_X11_remember
set_option maxRecDepth 20000 in
theorem ggX11_shut_X9_close : GoodIn wsX11_shut wsX9_close := goodIn_r _ [50, 16, 76, 77, 78, 79, 80, 81, 82] rfl (by decide +kernel)
set_option maxRecDepth 20000 in
theorem gX11_shut_X9_close : GoodIn wsX11_shut (wsV RX11 199 RX9 yX9_close wsX9_close) := goodIn_app (goodIn_of _ (by decide +kernel)) ggX11_shut_X9_close
theorem dX11_shut_0 : decode cX11_shut 0 = .ok (.aload_n 0, 1) := by decide +kernel
theorem dX11_shut_1 : decode cX11_shut 1 = .ok (.getfield 10, 3) := by decide +kernel
theorem dX11_shut_4 : decode cX11_shut 4 = .ok (.iload_n 1, 1) := by decide +kernel
theorem dX11_shut_5 : decode cX11_shut 5 = .ok (.invokevirtual 127, 3) := by decide +kernel
theorem dX11_shut_8 : decode cX11_shut 8 = .ok (.astore_n 2, 1) := by decide +kernel
theorem dX11_shut_9 : decode cX11_shut 9 = .ok (.aload_n 2, 1) := by decide +kernel
theorem dX11_shut_10 : decode cX11_shut 10 = .ok (.ifnonnull 6, 3) := by decide +kernel
theorem dX11_shut_13 : decode cX11_shut 13 = .ok (.bipush (-2), 2) := by decide +kernel
theorem dX11_shut_15 : decode cX11_shut 15 = .ok (.ireturn, 1) := by decide +kernel
theorem dX11_shut_16 : decode cX11_shut 16 = .ok (.aload_n 0, 1) := by decide +kernel
theorem dX11_shut_17 : decode cX11_shut 17 = .ok (.getfield 26, 3) := by decide +kernel
theorem dX11_shut_20 : decode cX11_shut 20 = .ok (.iload_n 1, 1) := by decide +kernel
theorem dX11_shut_21 : decode cX11_shut 21 = .ok (.invokevirtual 145, 3) := by decide +kernel
theorem dX11_shut_24 : decode cX11_shut 24 = .ok (.ifCond .ne 6, 3) := by decide +kernel
theorem dX11_shut_27 : decode cX11_shut 27 = .ok (.bipush (-4), 2) := by decide +kernel
theorem dX11_shut_29 : decode cX11_shut 29 = .ok (.ireturn, 1) := by decide +kernel
theorem dX11_shut_30 : decode cX11_shut 30 = .ok (.aload_n 0, 1) := by decide +kernel
theorem dX11_shut_31 : decode cX11_shut 31 = .ok (.invokevirtual 180, 3) := by decide +kernel
theorem dX11_shut_34 : decode cX11_shut 34 = .ok (.aload_n 0, 1) := by decide +kernel
theorem dX11_shut_35 : decode cX11_shut 35 = .ok (.getfield 26, 3) := by decide +kernel
theorem dX11_shut_38 : decode cX11_shut 38 = .ok (.iload_n 1, 1) := by decide +kernel
theorem dX11_shut_39 : decode cX11_shut 39 = .ok (.invokevirtual 199, 3) := by decide +kernel
theorem dX11_shut_42 : decode cX11_shut 42 = .ok (.aload_n 2, 1) := by decide +kernel
theorem dX11_shut_43 : decode cX11_shut 43 = .ok (.getfield 142, 3) := by decide +kernel
theorem dX11_shut_46 : decode cX11_shut 46 = .ok (.ireturn, 1) := by decide +kernel
set_option maxRecDepth 20000 in
theorem ggX11_mend_X1_keyAt : GoodIn wsX11_mend wsX1_keyAt := goodIn_r _ [7, 8, 9, 68, 69, 70, 71, 72, 73, 74] rfl (by decide +kernel)
set_option maxRecDepth 20000 in
theorem gX11_mend_X1_keyAt : GoodIn wsX11_mend (wsV RX11 97 RX1 yX1_keyAt wsX1_keyAt) := goodIn_app (goodIn_of _ (by decide +kernel)) ggX11_mend_X1_keyAt
set_option maxRecDepth 20000 in
theorem ggX11_mend_X9_bentOf : GoodIn wsX11_mend wsX9_bentOf := goodIn_r _ [14, 15, 75, 76, 77, 78, 79, 80, 81] rfl (by decide +kernel)
set_option maxRecDepth 20000 in
theorem gX11_mend_X9_bentOf : GoodIn wsX11_mend (wsV RX11 113 RX9 yX9_bentOf wsX9_bentOf) := goodIn_app (goodIn_of _ (by decide +kernel)) ggX11_mend_X9_bentOf
set_option maxRecDepth 20000 in
theorem ggX11_mend_X9_turnedOf : GoodIn wsX11_mend wsX9_turnedOf := goodIn_r _ [19, 20, 75, 76, 77, 78, 79, 80, 81] rfl (by decide +kernel)
set_option maxRecDepth 20000 in
theorem gX11_mend_X9_turnedOf : GoodIn wsX11_mend (wsV RX11 117 RX9 yX9_turnedOf wsX9_turnedOf) := goodIn_app (goodIn_of _ (by decide +kernel)) ggX11_mend_X9_turnedOf
set_option maxRecDepth 20000 in
theorem ggX11_mend_X11_remember : GoodIn wsX11_mend wsX11_remember := goodIn_r _ [25, 26, 2, 27, 28, 29, 30, 31, 32, 33, 34, 24, 35, 36, 37, 38, 39, 40, 41, 42, 43, 13, 44, 45, 46, 47, 15, 20, 48, 49, 54, 55, 56, 57, 58, 59, 60, 61, 62, 63, 64, 65, 66, 67, 75, 76, 77, 78, 79, 80, 81] rfl (by decide +kernel)
set_option maxRecDepth 20000 in
theorem gX11_mend_X11_remember : GoodIn wsX11_mend (wsV RX11 180 RX11 yX11_remember wsX11_remember) := goodIn_app (goodIn_of _ (by decide +kernel)) ggX11_mend_X11_remember
set_option maxRecDepth 20000 in
theorem ggX11_mend_X9_restore : GoodIn wsX11_mend wsX9_restore := goodIn_r _ [53, 15, 20, 75, 76, 77, 78, 79, 80, 81] rfl (by decide +kernel)
set_option maxRecDepth 20000 in
theorem gX11_mend_X9_restore : GoodIn wsX11_mend (wsV RX11 202 RX9 yX9_restore wsX9_restore) := goodIn_app (goodIn_of _ (by decide +kernel)) ggX11_mend_X9_restore
theorem dX11_mend_0 : decode cX11_mend 0 = .ok (.aload_n 0, 1) := by decide +kernel
theorem dX11_mend_1 : decode cX11_mend 1 = .ok (.getfield 10, 3) := by decide +kernel
theorem dX11_mend_4 : decode cX11_mend 4 = .ok (.iload_n 1, 1) := by decide +kernel
theorem dX11_mend_5 : decode cX11_mend 5 = .ok (.invokevirtual 97, 3) := by decide +kernel
theorem dX11_mend_8 : decode cX11_mend 8 = .ok (.ifnonnull 6, 3) := by decide +kernel
theorem dX11_mend_11 : decode cX11_mend 11 = .ok (.bipush (-2), 2) := by decide +kernel
theorem dX11_mend_13 : decode cX11_mend 13 = .ok (.ireturn, 1) := by decide +kernel
theorem dX11_mend_14 : decode cX11_mend 14 = .ok (.aload_n 0, 1) := by decide +kernel
theorem dX11_mend_15 : decode cX11_mend 15 = .ok (.getfield 26, 3) := by decide +kernel
theorem dX11_mend_18 : decode cX11_mend 18 = .ok (.iload_n 1, 1) := by decide +kernel
theorem dX11_mend_19 : decode cX11_mend 19 = .ok (.invokevirtual 113, 3) := by decide +kernel
theorem dX11_mend_22 : decode cX11_mend 22 = .ok (.aload_n 0, 1) := by decide +kernel
theorem dX11_mend_23 : decode cX11_mend 23 = .ok (.getfield 26, 3) := by decide +kernel
theorem dX11_mend_26 : decode cX11_mend 26 = .ok (.iload_n 1, 1) := by decide +kernel
theorem dX11_mend_27 : decode cX11_mend 27 = .ok (.invokevirtual 117, 3) := by decide +kernel
theorem dX11_mend_30 : decode cX11_mend 30 = .ok (.iadd, 1) := by decide +kernel
theorem dX11_mend_31 : decode cX11_mend 31 = .ok (.istore_n 2, 1) := by decide +kernel
theorem dX11_mend_32 : decode cX11_mend 32 = .ok (.iload_n 2, 1) := by decide +kernel
theorem dX11_mend_33 : decode cX11_mend 33 = .ok (.ifCond .ne 6, 3) := by decide +kernel
theorem dX11_mend_36 : decode cX11_mend 36 = .ok (.bipush (-4), 2) := by decide +kernel
theorem dX11_mend_38 : decode cX11_mend 38 = .ok (.ireturn, 1) := by decide +kernel
theorem dX11_mend_39 : decode cX11_mend 39 = .ok (.aload_n 0, 1) := by decide +kernel
theorem dX11_mend_40 : decode cX11_mend 40 = .ok (.invokevirtual 180, 3) := by decide +kernel
theorem dX11_mend_43 : decode cX11_mend 43 = .ok (.aload_n 0, 1) := by decide +kernel
theorem dX11_mend_44 : decode cX11_mend 44 = .ok (.getfield 26, 3) := by decide +kernel
theorem dX11_mend_47 : decode cX11_mend 47 = .ok (.iload_n 1, 1) := by decide +kernel
theorem dX11_mend_48 : decode cX11_mend 48 = .ok (.invokevirtual 202, 3) := by decide +kernel
theorem dX11_mend_51 : decode cX11_mend 51 = .ok (.iload_n 2, 1) := by decide +kernel
theorem dX11_mend_52 : decode cX11_mend 52 = .ok (.ireturn, 1) := by decide +kernel
set_option maxRecDepth 20000 in
theorem ggX11_day_X11_remember : GoodIn wsX11_day wsX11_remember := goodIn_r _ [7, 8, 1, 9, 10, 11, 12, 13, 14, 15, 16, 6, 17, 18, 19, 20, 21, 22, 23, 24, 25, 26, 27, 28, 29, 30, 31, 32, 33, 34, 39, 40, 41, 42, 43, 44, 45, 46, 47, 48, 49, 50, 51, 52, 53, 54, 55, 56, 57, 58, 59] rfl (by decide +kernel)
set_option maxRecDepth 20000 in
theorem gX11_day_X11_remember : GoodIn wsX11_day (wsV RX11 180 RX11 yX11_remember wsX11_remember) := goodIn_app (goodIn_of _ (by decide +kernel)) ggX11_day_X11_remember
set_option maxRecDepth 20000 in
theorem ggX11_day_X9_nextDay : GoodIn wsX11_day wsX9_nextDay := goodIn_r _ [38, 28, 34, 53, 54, 55, 56, 57, 58, 59] rfl (by decide +kernel)
set_option maxRecDepth 20000 in
theorem gX11_day_X9_nextDay : GoodIn wsX11_day (wsV RX11 208 RX9 yX9_nextDay wsX9_nextDay) := goodIn_app (goodIn_of _ (by decide +kernel)) ggX11_day_X9_nextDay
theorem dX11_day_0 : decode cX11_day 0 = .ok (.aload_n 0, 1) := by decide +kernel
theorem dX11_day_1 : decode cX11_day 1 = .ok (.getfield 26, 3) := by decide +kernel
theorem dX11_day_4 : decode cX11_day 4 = .ok (.getfield 205, 3) := by decide +kernel
theorem dX11_day_7 : decode cX11_day 7 = .ok (.sipush 999, 3) := by decide +kernel
theorem dX11_day_10 : decode cX11_day 10 = .ok (.if_icmp .lt 6, 3) := by decide +kernel
theorem dX11_day_13 : decode cX11_day 13 = .ok (.bipush (-5), 2) := by decide +kernel
theorem dX11_day_15 : decode cX11_day 15 = .ok (.ireturn, 1) := by decide +kernel
theorem dX11_day_16 : decode cX11_day 16 = .ok (.aload_n 0, 1) := by decide +kernel
theorem dX11_day_17 : decode cX11_day 17 = .ok (.invokevirtual 180, 3) := by decide +kernel
theorem dX11_day_20 : decode cX11_day 20 = .ok (.aload_n 0, 1) := by decide +kernel
theorem dX11_day_21 : decode cX11_day 21 = .ok (.getfield 26, 3) := by decide +kernel
theorem dX11_day_24 : decode cX11_day 24 = .ok (.invokevirtual 208, 3) := by decide +kernel
theorem dX11_day_27 : decode cX11_day 27 = .ok (.aload_n 0, 1) := by decide +kernel
theorem dX11_day_28 : decode cX11_day 28 = .ok (.getfield 26, 3) := by decide +kernel
theorem dX11_day_31 : decode cX11_day 31 = .ok (.getfield 205, 3) := by decide +kernel
theorem dX11_day_34 : decode cX11_day 34 = .ok (.ireturn, 1) := by decide +kernel
set_option maxRecDepth 20000 in
theorem ggX11_undo_X11_pastAt : GoodIn wsX11_undo wsX11_pastAt := goodIn_r _ [8, 9, 10, 11, 12, 13, 26, 27, 28, 29, 30, 31, 32, 33, 34, 35, 36, 37, 38, 39] rfl (by decide +kernel)
set_option maxRecDepth 20000 in
theorem gX11_undo_X11_pastAt : GoodIn wsX11_undo (wsV RX11 214 RX11 yX11_pastAt wsX11_pastAt) := goodIn_app (goodIn_of _ (by decide +kernel)) ggX11_undo_X11_pastAt
set_option maxRecDepth 20000 in
theorem ggX11_undo_X9_takeFrom : GoodIn wsX11_undo wsX9_takeFrom := goodIn_r _ [18, 19, 20, 21, 22, 23, 24, 25, 40, 41, 42, 43, 44, 45, 46] rfl (by decide +kernel)
set_option maxRecDepth 20000 in
theorem gX11_undo_X9_takeFrom : GoodIn wsX11_undo (wsV RX11 218 RX9 yX9_takeFrom wsX9_takeFrom) := goodIn_app (goodIn_of _ (by decide +kernel)) ggX11_undo_X9_takeFrom
theorem dX11_undo_0 : decode cX11_undo 0 = .ok (.aload_n 0, 1) := by decide +kernel
theorem dX11_undo_1 : decode cX11_undo 1 = .ok (.getfield 94, 3) := by decide +kernel
theorem dX11_undo_4 : decode cX11_undo 4 = .ok (.ifCond .gt 6, 3) := by decide +kernel
theorem dX11_undo_7 : decode cX11_undo 7 = .ok (.bipush (-4), 2) := by decide +kernel
theorem dX11_undo_9 : decode cX11_undo 9 = .ok (.ireturn, 1) := by decide +kernel
theorem dX11_undo_10 : decode cX11_undo 10 = .ok (.aload_n 0, 1) := by decide +kernel
theorem dX11_undo_11 : decode cX11_undo 11 = .ok (.dup, 1) := by decide +kernel
theorem dX11_undo_12 : decode cX11_undo 12 = .ok (.getfield 211, 3) := by decide +kernel
theorem dX11_undo_15 : decode cX11_undo 15 = .ok (.iconst 1, 1) := by decide +kernel
theorem dX11_undo_16 : decode cX11_undo 16 = .ok (.isub, 1) := by decide +kernel
theorem dX11_undo_17 : decode cX11_undo 17 = .ok (.putfield 211, 3) := by decide +kernel
theorem dX11_undo_20 : decode cX11_undo 20 = .ok (.aload_n 0, 1) := by decide +kernel
theorem dX11_undo_21 : decode cX11_undo 21 = .ok (.dup, 1) := by decide +kernel
theorem dX11_undo_22 : decode cX11_undo 22 = .ok (.getfield 94, 3) := by decide +kernel
theorem dX11_undo_25 : decode cX11_undo 25 = .ok (.iconst 1, 1) := by decide +kernel
theorem dX11_undo_26 : decode cX11_undo 26 = .ok (.isub, 1) := by decide +kernel
theorem dX11_undo_27 : decode cX11_undo 27 = .ok (.putfield 94, 3) := by decide +kernel
theorem dX11_undo_30 : decode cX11_undo 30 = .ok (.aload_n 0, 1) := by decide +kernel
theorem dX11_undo_31 : decode cX11_undo 31 = .ok (.getfield 26, 3) := by decide +kernel
theorem dX11_undo_34 : decode cX11_undo 34 = .ok (.aload_n 0, 1) := by decide +kernel
theorem dX11_undo_35 : decode cX11_undo 35 = .ok (.aload_n 0, 1) := by decide +kernel
theorem dX11_undo_36 : decode cX11_undo 36 = .ok (.getfield 211, 3) := by decide +kernel
theorem dX11_undo_39 : decode cX11_undo 39 = .ok (.invokevirtual 214, 3) := by decide +kernel
theorem dX11_undo_42 : decode cX11_undo 42 = .ok (.invokevirtual 218, 3) := by decide +kernel
theorem dX11_undo_45 : decode cX11_undo 45 = .ok (.aload_n 0, 1) := by decide +kernel
theorem dX11_undo_46 : decode cX11_undo 46 = .ok (.getfield 94, 3) := by decide +kernel
theorem dX11_undo_49 : decode cX11_undo 49 = .ok (.ireturn, 1) := by decide +kernel
set_option maxRecDepth 20000 in
theorem ggX11_keep_X9_takeFrom : GoodIn wsX11_keep wsX9_takeFrom := goodIn_r _ [11, 12, 13, 14, 15, 16, 17, 18, 40, 41, 42, 43, 44, 45, 46] rfl (by decide +kernel)
set_option maxRecDepth 20000 in
theorem gX11_keep_X9_takeFrom : GoodIn wsX11_keep (wsV RX11 218 RX9 yX9_takeFrom wsX9_takeFrom) := goodIn_app (goodIn_of _ (by decide +kernel)) ggX11_keep_X9_takeFrom
set_option maxRecDepth 20000 in
theorem ggX11_keep_X10_takeLetters : GoodIn wsX11_keep wsX10_takeLetters := goodIn_r _ [23, 24, 25, 47, 48, 49, 50, 51, 52, 53, 54, 55, 56] rfl (by decide +kernel)
set_option maxRecDepth 20000 in
theorem gX11_keep_X10_takeLetters : GoodIn wsX11_keep (wsV RX11 222 RX10 yX10_takeLetters wsX10_takeLetters) := goodIn_app (goodIn_of _ (by decide +kernel)) ggX11_keep_X10_takeLetters
theorem dX11_keep_0 : decode cX11_keep 0 = .ok (.iload_n 1, 1) := by decide +kernel
theorem dX11_keep_1 : decode cX11_keep 1 = .ok (.ifCond .lt 8, 3) := by decide +kernel
theorem dX11_keep_4 : decode cX11_keep 4 = .ok (.iload_n 1, 1) := by decide +kernel
theorem dX11_keep_5 : decode cX11_keep 5 = .ok (.iconst 2, 1) := by decide +kernel
theorem dX11_keep_6 : decode cX11_keep 6 = .ok (.if_icmp .lt 6, 3) := by decide +kernel
theorem dX11_keep_9 : decode cX11_keep 9 = .ok (.bipush (-2), 2) := by decide +kernel
theorem dX11_keep_11 : decode cX11_keep 11 = .ok (.ireturn, 1) := by decide +kernel
theorem dX11_keep_12 : decode cX11_keep 12 = .ok (.aload_n 0, 1) := by decide +kernel
theorem dX11_keep_13 : decode cX11_keep 13 = .ok (.getfield 34, 3) := by decide +kernel
theorem dX11_keep_16 : decode cX11_keep 16 = .ok (.iload_n 1, 1) := by decide +kernel
theorem dX11_keep_17 : decode cX11_keep 17 = .ok (.aaload, 1) := by decide +kernel
theorem dX11_keep_18 : decode cX11_keep 18 = .ok (.aload_n 0, 1) := by decide +kernel
theorem dX11_keep_19 : decode cX11_keep 19 = .ok (.getfield 26, 3) := by decide +kernel
theorem dX11_keep_22 : decode cX11_keep 22 = .ok (.invokevirtual 218, 3) := by decide +kernel
theorem dX11_keep_25 : decode cX11_keep 25 = .ok (.aload_n 0, 1) := by decide +kernel
theorem dX11_keep_26 : decode cX11_keep 26 = .ok (.getfield 37, 3) := by decide +kernel
theorem dX11_keep_29 : decode cX11_keep 29 = .ok (.iload_n 1, 1) := by decide +kernel
theorem dX11_keep_30 : decode cX11_keep 30 = .ok (.aaload, 1) := by decide +kernel
theorem dX11_keep_31 : decode cX11_keep 31 = .ok (.aload_n 0, 1) := by decide +kernel
theorem dX11_keep_32 : decode cX11_keep 32 = .ok (.getfield 19, 3) := by decide +kernel
theorem dX11_keep_35 : decode cX11_keep 35 = .ok (.invokevirtual 222, 3) := by decide +kernel
theorem dX11_keep_38 : decode cX11_keep 38 = .ok (.aload_n 0, 1) := by decide +kernel
theorem dX11_keep_39 : decode cX11_keep 39 = .ok (.dup, 1) := by decide +kernel
theorem dX11_keep_40 : decode cX11_keep 40 = .ok (.getfield 91, 3) := by decide +kernel
theorem dX11_keep_43 : decode cX11_keep 43 = .ok (.iconst 1, 1) := by decide +kernel
theorem dX11_keep_44 : decode cX11_keep 44 = .ok (.iload_n 1, 1) := by decide +kernel
theorem dX11_keep_45 : decode cX11_keep 45 = .ok (.ishl, 1) := by decide +kernel
theorem dX11_keep_46 : decode cX11_keep 46 = .ok (.ior, 1) := by decide +kernel
theorem dX11_keep_47 : decode cX11_keep 47 = .ok (.putfield 91, 3) := by decide +kernel
theorem dX11_keep_50 : decode cX11_keep 50 = .ok (.aload_n 0, 1) := by decide +kernel
theorem dX11_keep_51 : decode cX11_keep 51 = .ok (.getfield 26, 3) := by decide +kernel
theorem dX11_keep_54 : decode cX11_keep 54 = .ok (.getfield 205, 3) := by decide +kernel
theorem dX11_keep_57 : decode cX11_keep 57 = .ok (.ireturn, 1) := by decide +kernel
set_option maxRecDepth 20000 in
theorem ggX11_back_X9_takeFrom : GoodIn wsX11_back wsX9_takeFrom := goodIn_r _ [12, 13, 14, 15, 16, 17, 18, 19, 41, 42, 43, 44, 45, 46, 47] rfl (by decide +kernel)
set_option maxRecDepth 20000 in
theorem gX11_back_X9_takeFrom : GoodIn wsX11_back (wsV RX11 218 RX9 yX9_takeFrom wsX9_takeFrom) := goodIn_app (goodIn_of _ (by decide +kernel)) ggX11_back_X9_takeFrom
set_option maxRecDepth 20000 in
theorem ggX11_back_X10_takeLetters : GoodIn wsX11_back wsX10_takeLetters := goodIn_r _ [24, 25, 26, 48, 49, 50, 51, 52, 53, 54, 55, 56, 57] rfl (by decide +kernel)
set_option maxRecDepth 20000 in
theorem gX11_back_X10_takeLetters : GoodIn wsX11_back (wsV RX11 222 RX10 yX10_takeLetters wsX10_takeLetters) := goodIn_app (goodIn_of _ (by decide +kernel)) ggX11_back_X10_takeLetters
theorem dX11_back_0 : decode cX11_back 0 = .ok (.iload_n 1, 1) := by decide +kernel
theorem dX11_back_1 : decode cX11_back 1 = .ok (.ifCond .lt 8, 3) := by decide +kernel
theorem dX11_back_4 : decode cX11_back 4 = .ok (.iload_n 1, 1) := by decide +kernel
theorem dX11_back_5 : decode cX11_back 5 = .ok (.iconst 2, 1) := by decide +kernel
theorem dX11_back_6 : decode cX11_back 6 = .ok (.if_icmp .lt 6, 3) := by decide +kernel
theorem dX11_back_9 : decode cX11_back 9 = .ok (.bipush (-2), 2) := by decide +kernel
theorem dX11_back_11 : decode cX11_back 11 = .ok (.ireturn, 1) := by decide +kernel
theorem dX11_back_12 : decode cX11_back 12 = .ok (.aload_n 0, 1) := by decide +kernel
theorem dX11_back_13 : decode cX11_back 13 = .ok (.getfield 91, 3) := by decide +kernel
theorem dX11_back_16 : decode cX11_back 16 = .ok (.iload_n 1, 1) := by decide +kernel
theorem dX11_back_17 : decode cX11_back 17 = .ok (.ishr, 1) := by decide +kernel
theorem dX11_back_18 : decode cX11_back 18 = .ok (.iconst 1, 1) := by decide +kernel
theorem dX11_back_19 : decode cX11_back 19 = .ok (.iand, 1) := by decide +kernel
theorem dX11_back_20 : decode cX11_back 20 = .ok (.ifCond .ne 6, 3) := by decide +kernel
theorem dX11_back_23 : decode cX11_back 23 = .ok (.bipush (-4), 2) := by decide +kernel
theorem dX11_back_25 : decode cX11_back 25 = .ok (.ireturn, 1) := by decide +kernel
theorem dX11_back_26 : decode cX11_back 26 = .ok (.aload_n 0, 1) := by decide +kernel
theorem dX11_back_27 : decode cX11_back 27 = .ok (.getfield 26, 3) := by decide +kernel
theorem dX11_back_30 : decode cX11_back 30 = .ok (.aload_n 0, 1) := by decide +kernel
theorem dX11_back_31 : decode cX11_back 31 = .ok (.getfield 34, 3) := by decide +kernel
theorem dX11_back_34 : decode cX11_back 34 = .ok (.iload_n 1, 1) := by decide +kernel
theorem dX11_back_35 : decode cX11_back 35 = .ok (.aaload, 1) := by decide +kernel
theorem dX11_back_36 : decode cX11_back 36 = .ok (.invokevirtual 218, 3) := by decide +kernel
theorem dX11_back_39 : decode cX11_back 39 = .ok (.aload_n 0, 1) := by decide +kernel
theorem dX11_back_40 : decode cX11_back 40 = .ok (.getfield 19, 3) := by decide +kernel
theorem dX11_back_43 : decode cX11_back 43 = .ok (.aload_n 0, 1) := by decide +kernel
theorem dX11_back_44 : decode cX11_back 44 = .ok (.getfield 37, 3) := by decide +kernel
theorem dX11_back_47 : decode cX11_back 47 = .ok (.iload_n 1, 1) := by decide +kernel
theorem dX11_back_48 : decode cX11_back 48 = .ok (.aaload, 1) := by decide +kernel
theorem dX11_back_49 : decode cX11_back 49 = .ok (.invokevirtual 222, 3) := by decide +kernel
theorem dX11_back_52 : decode cX11_back 52 = .ok (.aload_n 0, 1) := by decide +kernel
theorem dX11_back_53 : decode cX11_back 53 = .ok (.iconst 0, 1) := by decide +kernel
theorem dX11_back_54 : decode cX11_back 54 = .ok (.putfield 94, 3) := by decide +kernel
theorem dX11_back_57 : decode cX11_back 57 = .ok (.aload_n 0, 1) := by decide +kernel
theorem dX11_back_58 : decode cX11_back 58 = .ok (.getfield 26, 3) := by decide +kernel
theorem dX11_back_61 : decode cX11_back 61 = .ok (.getfield 205, 3) := by decide +kernel
theorem dX11_back_64 : decode cX11_back 64 = .ok (.ireturn, 1) := by decide +kernel
set_option maxRecDepth 20000 in
theorem ggX11_belongs_X1_keyAt : GoodIn wsX11_belongs wsX1_keyAt := goodIn_r _ [7, 8, 9, 115, 116, 117, 118, 119, 120, 121] rfl (by decide +kernel)
set_option maxRecDepth 20000 in
theorem gX11_belongs_X1_keyAt : GoodIn wsX11_belongs (wsV RX11 97 RX1 yX1_keyAt wsX1_keyAt) := goodIn_app (goodIn_of _ (by decide +kernel)) ggX11_belongs_X1_keyAt
set_option maxRecDepth 20000 in
theorem ggX11_belongs_X9_bentOf : GoodIn wsX11_belongs wsX9_bentOf := goodIn_r _ [14, 15, 122, 123, 124, 125, 126, 127, 128] rfl (by decide +kernel)
set_option maxRecDepth 20000 in
theorem gX11_belongs_X9_bentOf : GoodIn wsX11_belongs (wsV RX11 113 RX9 yX9_bentOf wsX9_bentOf) := goodIn_app (goodIn_of _ (by decide +kernel)) ggX11_belongs_X9_bentOf
set_option maxRecDepth 20000 in
theorem ggX11_belongs_X11_locksFor : GoodIn wsX11_belongs wsX11_locksFor := goodIn_r _ [20, 1, 21, 22, 23, 24, 6, 25, 26, 27, 28, 29, 30, 31, 32, 33, 34, 35, 36, 37, 38, 39, 40, 41, 42, 43, 44, 45, 46, 47, 48, 49, 50, 51, 52, 53, 54, 55, 56, 57, 58, 59, 60, 61, 62, 63, 64, 65, 66, 67, 68, 69, 70, 71, 72, 73, 74, 75, 76, 77, 78, 79, 80, 81, 82, 83, 84, 85, 86, 87, 88, 89, 90, 91, 92, 93, 94, 95, 96, 97, 98, 99, 100, 101, 102, 103, 104, 105, 106, 107, 108, 109, 110, 111, 112, 113, 114, 115, 116, 117, 118, 119, 120, 121, 129, 130, 131, 132, 133, 134, 135, 136, 137, 138, 139, 140] rfl (by decide +kernel)
set_option maxRecDepth 20000 in
theorem gX11_belongs_X11_locksFor : GoodIn wsX11_belongs (wsV RX11 226 RX11 yX11_locksFor wsX11_locksFor) := goodIn_app (goodIn_of _ (by decide +kernel)) ggX11_belongs_X11_locksFor
theorem dX11_belongs_0 : decode cX11_belongs 0 = .ok (.aload_n 0, 1) := by decide +kernel
theorem dX11_belongs_1 : decode cX11_belongs 1 = .ok (.getfield 10, 3) := by decide +kernel
theorem dX11_belongs_4 : decode cX11_belongs 4 = .ok (.iload_n 1, 1) := by decide +kernel
theorem dX11_belongs_5 : decode cX11_belongs 5 = .ok (.invokevirtual 97, 3) := by decide +kernel
theorem dX11_belongs_8 : decode cX11_belongs 8 = .ok (.astore_n 2, 1) := by decide +kernel
theorem dX11_belongs_9 : decode cX11_belongs 9 = .ok (.aload_n 2, 1) := by decide +kernel
theorem dX11_belongs_10 : decode cX11_belongs 10 = .ok (.ifnonnull 8, 3) := by decide +kernel
theorem dX11_belongs_13 : decode cX11_belongs 13 = .ok (.bipush (-2), 2) := by decide +kernel
theorem dX11_belongs_15 : decode cX11_belongs 15 = .ok (.goto 16, 3) := by decide +kernel
theorem dX11_belongs_18 : decode cX11_belongs 18 = .ok (.aload_n 0, 1) := by decide +kernel
theorem dX11_belongs_19 : decode cX11_belongs 19 = .ok (.aload_n 2, 1) := by decide +kernel
theorem dX11_belongs_20 : decode cX11_belongs 20 = .ok (.aload_n 0, 1) := by decide +kernel
theorem dX11_belongs_21 : decode cX11_belongs 21 = .ok (.getfield 26, 3) := by decide +kernel
theorem dX11_belongs_24 : decode cX11_belongs 24 = .ok (.iload_n 1, 1) := by decide +kernel
theorem dX11_belongs_25 : decode cX11_belongs 25 = .ok (.invokevirtual 113, 3) := by decide +kernel
theorem dX11_belongs_28 : decode cX11_belongs 28 = .ok (.invokevirtual 226, 3) := by decide +kernel
theorem dX11_belongs_31 : decode cX11_belongs 31 = .ok (.ireturn, 1) := by decide +kernel
set_option maxRecDepth 20000 in
theorem ggX11_openers_X1_lockAt : GoodIn wsX11_openers wsX1_lockAt := goodIn_r _ [6, 7, 8, 115, 116, 117, 118, 119, 120, 121] rfl (by decide +kernel)
set_option maxRecDepth 20000 in
theorem gX11_openers_X1_lockAt : GoodIn wsX11_openers (wsV RX11 127 RX1 yX1_lockAt wsX1_lockAt) := goodIn_app (goodIn_of _ (by decide +kernel)) ggX11_openers_X1_lockAt
set_option maxRecDepth 20000 in
theorem ggX11_openers_X11_keysFor : GoodIn wsX11_openers wsX11_keysFor := goodIn_r _ [13, 1, 14, 15, 16, 17, 18, 5, 19, 20, 21, 22, 23, 24, 25, 26, 27, 28, 29, 30, 31, 32, 33, 34, 35, 36, 37, 38, 39, 40, 41, 42, 43, 44, 45, 46, 47, 48, 49, 50, 51, 52, 53, 54, 55, 56, 57, 58, 59, 60, 61, 62, 63, 64, 65, 66, 67, 68, 69, 70, 71, 72, 73, 74, 75, 76, 77, 78, 79, 80, 81, 82, 83, 84, 85, 86, 87, 88, 89, 90, 91, 92, 93, 94, 95, 96, 97, 98, 99, 100, 101, 102, 103, 104, 105, 106, 107, 108, 109, 110, 111, 112, 113, 114, 115, 116, 117, 118, 119, 120, 121, 122, 123, 124, 125, 126, 127, 128, 129, 130, 131, 132, 133, 134, 135, 136, 137, 138, 139, 140] rfl (by decide +kernel)
set_option maxRecDepth 20000 in
theorem gX11_openers_X11_keysFor : GoodIn wsX11_openers (wsV RX11 230 RX11 yX11_keysFor wsX11_keysFor) := goodIn_app (goodIn_of _ (by decide +kernel)) ggX11_openers_X11_keysFor
theorem dX11_openers_0 : decode cX11_openers 0 = .ok (.aload_n 0, 1) := by decide +kernel
theorem dX11_openers_1 : decode cX11_openers 1 = .ok (.getfield 10, 3) := by decide +kernel
theorem dX11_openers_4 : decode cX11_openers 4 = .ok (.iload_n 1, 1) := by decide +kernel
theorem dX11_openers_5 : decode cX11_openers 5 = .ok (.invokevirtual 127, 3) := by decide +kernel
theorem dX11_openers_8 : decode cX11_openers 8 = .ok (.astore_n 2, 1) := by decide +kernel
theorem dX11_openers_9 : decode cX11_openers 9 = .ok (.aload_n 2, 1) := by decide +kernel
theorem dX11_openers_10 : decode cX11_openers 10 = .ok (.ifnonnull 8, 3) := by decide +kernel
theorem dX11_openers_13 : decode cX11_openers 13 = .ok (.bipush (-2), 2) := by decide +kernel
theorem dX11_openers_15 : decode cX11_openers 15 = .ok (.goto 8, 3) := by decide +kernel
theorem dX11_openers_18 : decode cX11_openers 18 = .ok (.aload_n 0, 1) := by decide +kernel
theorem dX11_openers_19 : decode cX11_openers 19 = .ok (.aload_n 2, 1) := by decide +kernel
theorem dX11_openers_20 : decode cX11_openers 20 = .ok (.invokevirtual 230, 3) := by decide +kernel
theorem dX11_openers_23 : decode cX11_openers 23 = .ok (.ireturn, 1) := by decide +kernel
set_option maxRecDepth 20000 in
theorem ggX11_twins_X11_areTwins : GoodIn wsX11_twins wsX11_areTwins := goodIn_r _ [7, 1, 8, 9, 10, 11, 12, 13, 14, 15, 16, 17, 18, 19, 20, 21, 22, 23, 24, 6, 25, 26, 27, 28, 29, 30, 31, 32, 33, 34, 35, 36, 37, 38, 39, 40, 41, 42, 43, 44, 45, 46, 47, 48, 49, 50, 51, 52, 53, 54, 55, 56, 57, 58, 59, 60, 61, 62, 63, 64, 65, 66, 67, 68, 69, 70, 71, 72, 73, 74, 75, 76, 77, 78, 79, 80, 81, 82, 83, 84, 85, 86, 87, 88, 89, 90, 91, 92, 93, 94, 95, 96, 97, 98, 99, 100, 101, 102, 103, 104, 105, 106, 107, 108, 109, 110, 111, 112, 113, 114, 115, 116, 117, 118, 119, 120, 121, 122, 123, 124, 125, 126, 127, 128, 129, 130, 131, 132, 133, 134, 135, 136, 137, 138, 139, 140, 141, 142, 143, 144, 145] rfl (by decide +kernel)
set_option maxRecDepth 20000 in
theorem gX11_twins_X11_areTwins : GoodIn wsX11_twins (wsV RX11 237 RX11 yX11_areTwins wsX11_areTwins) := goodIn_app (goodIn_of _ (by decide +kernel)) ggX11_twins_X11_areTwins
theorem dX11_twins_0 : decode cX11_twins 0 = .ok (.iload_n 1, 1) := by decide +kernel
theorem dX11_twins_1 : decode cX11_twins 1 = .ok (.iconst (-1), 1) := by decide +kernel
theorem dX11_twins_2 : decode cX11_twins 2 = .ok (.if_icmp .lt 9, 3) := by decide +kernel
theorem dX11_twins_5 : decode cX11_twins 5 = .ok (.iload_n 1, 1) := by decide +kernel
theorem dX11_twins_6 : decode cX11_twins 6 = .ok (.bipush 21, 2) := by decide +kernel
theorem dX11_twins_8 : decode cX11_twins 8 = .ok (.if_icmp .lt 6, 3) := by decide +kernel
theorem dX11_twins_11 : decode cX11_twins 11 = .ok (.bipush (-3), 2) := by decide +kernel
theorem dX11_twins_13 : decode cX11_twins 13 = .ok (.ireturn, 1) := by decide +kernel
theorem dX11_twins_14 : decode cX11_twins 14 = .ok (.iconst 0, 1) := by decide +kernel
theorem dX11_twins_15 : decode cX11_twins 15 = .ok (.istore_n 2, 1) := by decide +kernel
theorem dX11_twins_16 : decode cX11_twins 16 = .ok (.iconst 0, 1) := by decide +kernel
theorem dX11_twins_17 : decode cX11_twins 17 = .ok (.istore_n 3, 1) := by decide +kernel
theorem dX11_twins_18 : decode cX11_twins 18 = .ok (.iload_n 3, 1) := by decide +kernel
theorem dX11_twins_19 : decode cX11_twins 19 = .ok (.aload_n 0, 1) := by decide +kernel
theorem dX11_twins_20 : decode cX11_twins 20 = .ok (.getfield 10, 3) := by decide +kernel
theorem dX11_twins_23 : decode cX11_twins 23 = .ok (.getfield 234, 3) := by decide +kernel
theorem dX11_twins_26 : decode cX11_twins 26 = .ok (.if_icmp .ge 58, 3) := by decide +kernel
theorem dX11_twins_29 : decode cX11_twins 29 = .ok (.iload_n 3, 1) := by decide +kernel
theorem dX11_twins_30 : decode cX11_twins 30 = .ok (.iconst 1, 1) := by decide +kernel
theorem dX11_twins_31 : decode cX11_twins 31 = .ok (.iadd, 1) := by decide +kernel
theorem dX11_twins_32 : decode cX11_twins 32 = .ok (.istore 4, 2) := by decide +kernel
theorem dX11_twins_34 : decode cX11_twins 34 = .ok (.iload 4, 2) := by decide +kernel
theorem dX11_twins_36 : decode cX11_twins 36 = .ok (.aload_n 0, 1) := by decide +kernel
theorem dX11_twins_37 : decode cX11_twins 37 = .ok (.getfield 10, 3) := by decide +kernel
theorem dX11_twins_40 : decode cX11_twins 40 = .ok (.getfield 234, 3) := by decide +kernel
theorem dX11_twins_43 : decode cX11_twins 43 = .ok (.if_icmp .ge 35, 3) := by decide +kernel
theorem dX11_twins_46 : decode cX11_twins 46 = .ok (.aload_n 0, 1) := by decide +kernel
theorem dX11_twins_47 : decode cX11_twins 47 = .ok (.iload_n 3, 1) := by decide +kernel
theorem dX11_twins_48 : decode cX11_twins 48 = .ok (.iload 4, 2) := by decide +kernel
theorem dX11_twins_50 : decode cX11_twins 50 = .ok (.invokevirtual 237, 3) := by decide +kernel
theorem dX11_twins_53 : decode cX11_twins 53 = .ok (.ifCond .eq 19, 3) := by decide +kernel
theorem dX11_twins_56 : decode cX11_twins 56 = .ok (.iload_n 2, 1) := by decide +kernel
theorem dX11_twins_57 : decode cX11_twins 57 = .ok (.iload_n 1, 1) := by decide +kernel
theorem dX11_twins_58 : decode cX11_twins 58 = .ok (.if_icmp .ne 11, 3) := by decide +kernel
theorem dX11_twins_61 : decode cX11_twins 61 = .ok (.bipush 10, 2) := by decide +kernel
theorem dX11_twins_63 : decode cX11_twins 63 = .ok (.iload_n 3, 1) := by decide +kernel
theorem dX11_twins_64 : decode cX11_twins 64 = .ok (.imul, 1) := by decide +kernel
theorem dX11_twins_65 : decode cX11_twins 65 = .ok (.iload 4, 2) := by decide +kernel
theorem dX11_twins_67 : decode cX11_twins 67 = .ok (.iadd, 1) := by decide +kernel
theorem dX11_twins_68 : decode cX11_twins 68 = .ok (.ireturn, 1) := by decide +kernel
theorem dX11_twins_69 : decode cX11_twins 69 = .ok (.iinc 2 1, 3) := by decide +kernel
theorem dX11_twins_72 : decode cX11_twins 72 = .ok (.iinc 4 1, 3) := by decide +kernel
theorem dX11_twins_75 : decode cX11_twins 75 = .ok (.goto (-41), 3) := by decide +kernel
theorem dX11_twins_78 : decode cX11_twins 78 = .ok (.iinc 3 1, 3) := by decide +kernel
theorem dX11_twins_81 : decode cX11_twins 81 = .ok (.goto (-63), 3) := by decide +kernel
theorem dX11_twins_84 : decode cX11_twins 84 = .ok (.iload_n 1, 1) := by decide +kernel
theorem dX11_twins_85 : decode cX11_twins 85 = .ok (.iconst (-1), 1) := by decide +kernel
theorem dX11_twins_86 : decode cX11_twins 86 = .ok (.if_icmp .ne 7, 3) := by decide +kernel
theorem dX11_twins_89 : decode cX11_twins 89 = .ok (.iload_n 2, 1) := by decide +kernel
theorem dX11_twins_90 : decode cX11_twins 90 = .ok (.goto 4, 3) := by decide +kernel
theorem dX11_twins_93 : decode cX11_twins 93 = .ok (.iconst (-1), 1) := by decide +kernel
theorem dX11_twins_94 : decode cX11_twins 94 = .ok (.ireturn, 1) := by decide +kernel
set_option maxRecDepth 20000 in
theorem ggX11_match_X1_lockAt : GoodIn wsX11_match wsX1_lockAt := goodIn_r _ [9, 10, 11, 176, 177, 178, 179, 180, 181, 182] rfl (by decide +kernel)
set_option maxRecDepth 20000 in
theorem gX11_match_X1_lockAt : GoodIn wsX11_match (wsV RX11 127 RX1 yX1_lockAt wsX1_lockAt) := goodIn_app (goodIn_of _ (by decide +kernel)) ggX11_match_X1_lockAt
set_option maxRecDepth 20000 in
theorem ggX11_match_X11_usableKeysFor : GoodIn wsX11_match wsX11_usableKeysFor := goodIn_r _ [16, 1, 17, 5, 6, 7, 8, 9, 10, 11, 18, 19, 20, 21, 22, 23, 24, 25, 26, 15, 27, 28, 29, 30, 31, 32, 33, 34, 35, 36, 37, 38, 39, 40, 41, 42, 43, 44, 45, 46, 47, 48, 49, 50, 51, 52, 53, 54, 55, 56, 57, 58, 59, 60, 61, 62, 63, 64, 65, 66, 67, 68, 69, 70, 71, 72, 73, 74, 75, 76, 77, 78, 79, 80, 81, 82, 83, 84, 85, 86, 87, 88, 89, 90, 91, 92, 93, 94, 95, 96, 97, 98, 99, 100, 101, 102, 103, 104, 105, 106, 107, 108, 109, 110, 111, 112, 113, 114, 115, 116, 117, 118, 119, 120, 121, 122, 123, 124, 125, 155, 156, 157, 158, 159, 160, 161, 162, 163, 164, 165, 166, 167, 168, 176, 177, 178, 179, 180, 181, 182, 183, 184, 185, 186, 187, 188, 189, 190, 191, 192, 193, 194, 195, 196, 197, 198, 199, 200, 201] rfl (by decide +kernel)
set_option maxRecDepth 20000 in
theorem gX11_match_X11_usableKeysFor : GoodIn wsX11_match (wsV RX11 244 RX11 yX11_usableKeysFor wsX11_usableKeysFor) := goodIn_app (goodIn_of _ (by decide +kernel)) ggX11_match_X11_usableKeysFor
set_option maxRecDepth 20000 in
theorem ggX11_match_X6_pairUp : GoodIn wsX11_match wsX6_pairUp := goodIn_r _ [130, 131, 132, 133, 134, 135, 136, 129, 137, 138, 139, 140, 141, 142, 143, 144, 145, 146, 147, 148, 149, 150, 169, 170, 171, 172, 173, 174, 175] rfl (by decide +kernel)
set_option maxRecDepth 20000 in
theorem gX11_match_X6_pairUp : GoodIn wsX11_match (wsV RX11 247 RX6 yX6_pairUp wsX6_pairUp) := goodIn_app (goodIn_of _ (by decide +kernel)) ggX11_match_X6_pairUp
set_option maxRecDepth 20000 in
theorem ggX11_match_X6_keyFor : GoodIn wsX11_match wsX6_keyFor := goodIn_r _ [154, 133, 169, 170, 171, 172, 173, 174, 175] rfl (by decide +kernel)
set_option maxRecDepth 20000 in
theorem gX11_match_X6_keyFor : GoodIn wsX11_match (wsV RX11 253 RX6 yX6_keyFor wsX6_keyFor) := goodIn_app (goodIn_of _ (by decide +kernel)) ggX11_match_X6_keyFor
theorem dX11_match_0 : decode cX11_match 0 = .ok (.iload_n 1, 1) := by decide +kernel
theorem dX11_match_1 : decode cX11_match 1 = .ok (.iconst (-1), 1) := by decide +kernel
theorem dX11_match_2 : decode cX11_match 2 = .ok (.if_icmp .eq 17, 3) := by decide +kernel
theorem dX11_match_5 : decode cX11_match 5 = .ok (.aload_n 0, 1) := by decide +kernel
theorem dX11_match_6 : decode cX11_match 6 = .ok (.getfield 10, 3) := by decide +kernel
theorem dX11_match_9 : decode cX11_match 9 = .ok (.iload_n 1, 1) := by decide +kernel
theorem dX11_match_10 : decode cX11_match 10 = .ok (.invokevirtual 127, 3) := by decide +kernel
theorem dX11_match_13 : decode cX11_match 13 = .ok (.ifnonnull 6, 3) := by decide +kernel
theorem dX11_match_16 : decode cX11_match 16 = .ok (.bipush (-2), 2) := by decide +kernel
theorem dX11_match_18 : decode cX11_match 18 = .ok (.ireturn, 1) := by decide +kernel
theorem dX11_match_19 : decode cX11_match 19 = .ok (.iconst 0, 1) := by decide +kernel
theorem dX11_match_20 : decode cX11_match 20 = .ok (.istore_n 2, 1) := by decide +kernel
theorem dX11_match_21 : decode cX11_match 21 = .ok (.iload_n 2, 1) := by decide +kernel
theorem dX11_match_22 : decode cX11_match 22 = .ok (.bipush 7, 2) := by decide +kernel
theorem dX11_match_24 : decode cX11_match 24 = .ok (.if_icmp .ge 23, 3) := by decide +kernel
theorem dX11_match_27 : decode cX11_match 27 = .ok (.aload_n 0, 1) := by decide +kernel
theorem dX11_match_28 : decode cX11_match 28 = .ok (.getfield 51, 3) := by decide +kernel
theorem dX11_match_31 : decode cX11_match 31 = .ok (.getfield 241, 3) := by decide +kernel
theorem dX11_match_34 : decode cX11_match 34 = .ok (.iload_n 2, 1) := by decide +kernel
theorem dX11_match_35 : decode cX11_match 35 = .ok (.aload_n 0, 1) := by decide +kernel
theorem dX11_match_36 : decode cX11_match 36 = .ok (.iload_n 2, 1) := by decide +kernel
theorem dX11_match_37 : decode cX11_match 37 = .ok (.invokevirtual 244, 3) := by decide +kernel
theorem dX11_match_40 : decode cX11_match 40 = .ok (.iastore, 1) := by decide +kernel
theorem dX11_match_41 : decode cX11_match 41 = .ok (.iinc 2 1, 3) := by decide +kernel
theorem dX11_match_44 : decode cX11_match 44 = .ok (.goto (-23), 3) := by decide +kernel
theorem dX11_match_47 : decode cX11_match 47 = .ok (.aload_n 0, 1) := by decide +kernel
theorem dX11_match_48 : decode cX11_match 48 = .ok (.getfield 51, 3) := by decide +kernel
theorem dX11_match_51 : decode cX11_match 51 = .ok (.invokevirtual 247, 3) := by decide +kernel
theorem dX11_match_54 : decode cX11_match 54 = .ok (.iload_n 1, 1) := by decide +kernel
theorem dX11_match_55 : decode cX11_match 55 = .ok (.iconst (-1), 1) := by decide +kernel
theorem dX11_match_56 : decode cX11_match 56 = .ok (.if_icmp .ne 13, 3) := by decide +kernel
theorem dX11_match_59 : decode cX11_match 59 = .ok (.aload_n 0, 1) := by decide +kernel
theorem dX11_match_60 : decode cX11_match 60 = .ok (.getfield 51, 3) := by decide +kernel
theorem dX11_match_63 : decode cX11_match 63 = .ok (.getfield 250, 3) := by decide +kernel
theorem dX11_match_66 : decode cX11_match 66 = .ok (.goto 11, 3) := by decide +kernel
theorem dX11_match_69 : decode cX11_match 69 = .ok (.aload_n 0, 1) := by decide +kernel
theorem dX11_match_70 : decode cX11_match 70 = .ok (.getfield 51, 3) := by decide +kernel
theorem dX11_match_73 : decode cX11_match 73 = .ok (.iload_n 1, 1) := by decide +kernel
theorem dX11_match_74 : decode cX11_match 74 = .ok (.invokevirtual 253, 3) := by decide +kernel
theorem dX11_match_77 : decode cX11_match 77 = .ok (.ireturn, 1) := by decide +kernel
set_option maxRecDepth 20000 in
theorem ggX11_work_X11_usableKeysFor : GoodIn wsX11_work wsX11_usableKeysFor := goodIn_r _ [10, 1, 5, 11, 12, 13, 14, 15, 16, 17, 18, 19, 20, 21, 22, 23, 24, 25, 26, 9, 27, 28, 29, 30, 31, 32, 33, 34, 35, 36, 37, 38, 39, 40, 41, 42, 43, 44, 45, 46, 47, 48, 49, 50, 51, 52, 53, 54, 55, 56, 57, 58, 59, 60, 61, 62, 63, 64, 65, 66, 67, 68, 69, 70, 71, 72, 73, 74, 75, 76, 77, 78, 79, 80, 81, 82, 83, 84, 85, 86, 87, 88, 89, 90, 91, 92, 93, 94, 95, 96, 97, 98, 99, 100, 101, 102, 103, 104, 105, 106, 107, 108, 109, 110, 111, 112, 113, 114, 115, 116, 117, 118, 119, 120, 121, 122, 123, 124, 125, 181, 182, 183, 184, 185, 186, 187, 188, 189, 190, 191, 192, 193, 194, 195, 196, 197, 198, 199, 200, 201, 202, 203, 204, 205, 206, 207, 208, 209, 210, 211, 212, 213, 214, 215, 216, 217, 218, 219, 220] rfl (by decide +kernel)
set_option maxRecDepth 20000 in
theorem gX11_work_X11_usableKeysFor : GoodIn wsX11_work (wsV RX11 244 RX11 yX11_usableKeysFor wsX11_usableKeysFor) := goodIn_app (goodIn_of _ (by decide +kernel)) ggX11_work_X11_usableKeysFor
set_option maxRecDepth 20000 in
theorem ggX11_work_X6_startWork : GoodIn wsX11_work wsX6_startWork := goodIn_r _ [130, 131, 132, 221, 222, 223, 224, 225, 226, 227] rfl (by decide +kernel)
set_option maxRecDepth 20000 in
theorem gX11_work_X6_startWork : GoodIn wsX11_work (wsV RX11 259 RX6 yX6_startWork wsX6_startWork) := goodIn_app (goodIn_of _ (by decide +kernel)) ggX11_work_X6_startWork
set_option maxRecDepth 20000 in
theorem ggX11_work_X9_placeOf : GoodIn wsX11_work wsX9_placeOf := goodIn_r _ [136, 137, 202, 203, 204, 205, 206, 207, 208] rfl (by decide +kernel)
set_option maxRecDepth 20000 in
theorem gX11_work_X9_placeOf : GoodIn wsX11_work (wsV RX11 151 RX9 yX9_placeOf wsX9_placeOf) := goodIn_app (goodIn_of _ (by decide +kernel)) ggX11_work_X9_placeOf
set_option maxRecDepth 20000 in
theorem ggX11_work_X9_minuteOf : GoodIn wsX11_work wsX9_minuteOf := goodIn_r _ [141, 142, 202, 203, 204, 205, 206, 207, 208] rfl (by decide +kernel)
set_option maxRecDepth 20000 in
theorem gX11_work_X9_minuteOf : GoodIn wsX11_work (wsV RX11 154 RX9 yX9_minuteOf wsX9_minuteOf) := goodIn_app (goodIn_of _ (by decide +kernel)) ggX11_work_X9_minuteOf
set_option maxRecDepth 20000 in
theorem ggX11_work_X6_walkFrom : GoodIn wsX11_work wsX6_walkFrom := goodIn_r _ [146, 147, 148, 149, 129, 150, 151, 132, 152, 153, 154, 155, 156, 157, 158, 159, 12, 13, 14, 15, 16, 17, 160, 9, 161, 162, 163, 164, 165, 166, 167, 168, 221, 222, 223, 224, 225, 226, 227, 195, 196, 197, 198, 199, 200, 201, 209, 210, 211, 212] rfl (by decide +kernel)
set_option maxRecDepth 20000 in
theorem gX11_work_X6_walkFrom : GoodIn wsX11_work (wsV RX11 265 RX6 yX6_walkFrom wsX6_walkFrom) := goodIn_app (goodIn_of _ (by decide +kernel)) ggX11_work_X6_walkFrom
set_option maxRecDepth 20000 in
theorem ggX11_work_X6_shareWith : GoodIn wsX11_work wsX6_shareWith := goodIn_r _ [172, 131, 151, 173, 174, 157, 175, 155, 156, 158, 221, 222, 223, 224, 225, 226, 227] rfl (by decide +kernel)
set_option maxRecDepth 20000 in
theorem gX11_work_X6_shareWith : GoodIn wsX11_work (wsV RX11 269 RX6 yX6_shareWith wsX6_shareWith) := goodIn_app (goodIn_of _ (by decide +kernel)) ggX11_work_X6_shareWith
set_option maxRecDepth 20000 in
theorem ggX11_work_X6_fewestFor : GoodIn wsX11_work wsX6_fewestFor := goodIn_r _ [179, 132, 131, 155, 156, 157, 158, 180, 86, 87, 88, 89, 90, 91, 221, 222, 223, 224, 225, 226, 227] rfl (by decide +kernel)
set_option maxRecDepth 20000 in
theorem gX11_work_X6_fewestFor : GoodIn wsX11_work (wsV RX11 272 RX6 yX6_fewestFor wsX6_fewestFor) := goodIn_app (goodIn_of _ (by decide +kernel)) ggX11_work_X6_fewestFor
theorem dX11_work_0 : decode cX11_work 0 = .ok (.iload_n 1, 1) := by decide +kernel
theorem dX11_work_1 : decode cX11_work 1 = .ok (.iconst 1, 1) := by decide +kernel
theorem dX11_work_2 : decode cX11_work 2 = .ok (.if_icmp .lt 9, 3) := by decide +kernel
theorem dX11_work_5 : decode cX11_work 5 = .ok (.iload_n 1, 1) := by decide +kernel
theorem dX11_work_6 : decode cX11_work 6 = .ok (.bipush 7, 2) := by decide +kernel
theorem dX11_work_8 : decode cX11_work 8 = .ok (.if_icmp .le 6, 3) := by decide +kernel
theorem dX11_work_11 : decode cX11_work 11 = .ok (.bipush (-3), 2) := by decide +kernel
theorem dX11_work_13 : decode cX11_work 13 = .ok (.ireturn, 1) := by decide +kernel
theorem dX11_work_14 : decode cX11_work 14 = .ok (.iconst 0, 1) := by decide +kernel
theorem dX11_work_15 : decode cX11_work 15 = .ok (.istore_n 2, 1) := by decide +kernel
theorem dX11_work_16 : decode cX11_work 16 = .ok (.iconst 0, 1) := by decide +kernel
theorem dX11_work_17 : decode cX11_work 17 = .ok (.istore_n 3, 1) := by decide +kernel
theorem dX11_work_18 : decode cX11_work 18 = .ok (.iload_n 3, 1) := by decide +kernel
theorem dX11_work_19 : decode cX11_work 19 = .ok (.aload_n 0, 1) := by decide +kernel
theorem dX11_work_20 : decode cX11_work 20 = .ok (.getfield 10, 3) := by decide +kernel
theorem dX11_work_23 : decode cX11_work 23 = .ok (.getfield 256, 3) := by decide +kernel
theorem dX11_work_26 : decode cX11_work 26 = .ok (.if_icmp .ge 23, 3) := by decide +kernel
theorem dX11_work_29 : decode cX11_work 29 = .ok (.aload_n 0, 1) := by decide +kernel
theorem dX11_work_30 : decode cX11_work 30 = .ok (.iload_n 3, 1) := by decide +kernel
theorem dX11_work_31 : decode cX11_work 31 = .ok (.invokevirtual 244, 3) := by decide +kernel
theorem dX11_work_34 : decode cX11_work 34 = .ok (.ifCond .eq 9, 3) := by decide +kernel
theorem dX11_work_37 : decode cX11_work 37 = .ok (.iload_n 2, 1) := by decide +kernel
theorem dX11_work_38 : decode cX11_work 38 = .ok (.iconst 1, 1) := by decide +kernel
theorem dX11_work_39 : decode cX11_work 39 = .ok (.iload_n 3, 1) := by decide +kernel
theorem dX11_work_40 : decode cX11_work 40 = .ok (.ishl, 1) := by decide +kernel
theorem dX11_work_41 : decode cX11_work 41 = .ok (.ior, 1) := by decide +kernel
theorem dX11_work_42 : decode cX11_work 42 = .ok (.istore_n 2, 1) := by decide +kernel
theorem dX11_work_43 : decode cX11_work 43 = .ok (.iinc 3 1, 3) := by decide +kernel
theorem dX11_work_46 : decode cX11_work 46 = .ok (.goto (-28), 3) := by decide +kernel
theorem dX11_work_49 : decode cX11_work 49 = .ok (.aload_n 0, 1) := by decide +kernel
theorem dX11_work_50 : decode cX11_work 50 = .ok (.getfield 51, 3) := by decide +kernel
theorem dX11_work_53 : decode cX11_work 53 = .ok (.invokevirtual 259, 3) := by decide +kernel
theorem dX11_work_56 : decode cX11_work 56 = .ok (.iconst 0, 1) := by decide +kernel
theorem dX11_work_57 : decode cX11_work 57 = .ok (.istore_n 3, 1) := by decide +kernel
theorem dX11_work_58 : decode cX11_work 58 = .ok (.iload_n 3, 1) := by decide +kernel
theorem dX11_work_59 : decode cX11_work 59 = .ok (.aload_n 0, 1) := by decide +kernel
theorem dX11_work_60 : decode cX11_work 60 = .ok (.getfield 10, 3) := by decide +kernel
theorem dX11_work_63 : decode cX11_work 63 = .ok (.getfield 262, 3) := by decide +kernel
theorem dX11_work_66 : decode cX11_work 66 = .ok (.if_icmp .ge 45, 3) := by decide +kernel
theorem dX11_work_69 : decode cX11_work 69 = .ok (.aload_n 0, 1) := by decide +kernel
theorem dX11_work_70 : decode cX11_work 70 = .ok (.getfield 51, 3) := by decide +kernel
theorem dX11_work_73 : decode cX11_work 73 = .ok (.aload_n 0, 1) := by decide +kernel
theorem dX11_work_74 : decode cX11_work 74 = .ok (.getfield 26, 3) := by decide +kernel
theorem dX11_work_77 : decode cX11_work 77 = .ok (.iload_n 3, 1) := by decide +kernel
theorem dX11_work_78 : decode cX11_work 78 = .ok (.invokevirtual 151, 3) := by decide +kernel
theorem dX11_work_81 : decode cX11_work 81 = .ok (.aload_n 0, 1) := by decide +kernel
theorem dX11_work_82 : decode cX11_work 82 = .ok (.getfield 26, 3) := by decide +kernel
theorem dX11_work_85 : decode cX11_work 85 = .ok (.iload_n 3, 1) := by decide +kernel
theorem dX11_work_86 : decode cX11_work 86 = .ok (.invokevirtual 154, 3) := by decide +kernel
theorem dX11_work_89 : decode cX11_work 89 = .ok (.iload_n 2, 1) := by decide +kernel
theorem dX11_work_90 : decode cX11_work 90 = .ok (.aload_n 0, 1) := by decide +kernel
theorem dX11_work_91 : decode cX11_work 91 = .ok (.getfield 10, 3) := by decide +kernel
theorem dX11_work_94 : decode cX11_work 94 = .ok (.invokevirtual 265, 3) := by decide +kernel
theorem dX11_work_97 : decode cX11_work 97 = .ok (.aload_n 0, 1) := by decide +kernel
theorem dX11_work_98 : decode cX11_work 98 = .ok (.getfield 51, 3) := by decide +kernel
theorem dX11_work_101 : decode cX11_work 101 = .ok (.iload_n 2, 1) := by decide +kernel
theorem dX11_work_102 : decode cX11_work 102 = .ok (.invokevirtual 269, 3) := by decide +kernel
theorem dX11_work_105 : decode cX11_work 105 = .ok (.iinc 3 1, 3) := by decide +kernel
theorem dX11_work_108 : decode cX11_work 108 = .ok (.goto (-50), 3) := by decide +kernel
theorem dX11_work_111 : decode cX11_work 111 = .ok (.aload_n 0, 1) := by decide +kernel
theorem dX11_work_112 : decode cX11_work 112 = .ok (.getfield 51, 3) := by decide +kernel
theorem dX11_work_115 : decode cX11_work 115 = .ok (.iload_n 1, 1) := by decide +kernel
theorem dX11_work_116 : decode cX11_work 116 = .ok (.invokevirtual 272, 3) := by decide +kernel
theorem dX11_work_119 : decode cX11_work 119 = .ok (.ireturn, 1) := by decide +kernel
set_option maxRecDepth 20000 in
theorem ggX11_seen_X1_lockAt : GoodIn wsX11_seen wsX1_lockAt := goodIn_r _ [9, 10, 11, 26, 27, 28, 29, 30, 31, 32] rfl (by decide +kernel)
set_option maxRecDepth 20000 in
theorem gX11_seen_X1_lockAt : GoodIn wsX11_seen (wsV RX11 127 RX1 yX1_lockAt wsX1_lockAt) := goodIn_app (goodIn_of _ (by decide +kernel)) ggX11_seen_X1_lockAt
theorem dX11_seen_0 : decode cX11_seen 0 = .ok (.aload_n 0, 1) := by decide +kernel
theorem dX11_seen_1 : decode cX11_seen 1 = .ok (.getfield 10, 3) := by decide +kernel
theorem dX11_seen_4 : decode cX11_seen 4 = .ok (.iload_n 1, 1) := by decide +kernel
theorem dX11_seen_5 : decode cX11_seen 5 = .ok (.invokevirtual 127, 3) := by decide +kernel
theorem dX11_seen_8 : decode cX11_seen 8 = .ok (.ifnonnull 6, 3) := by decide +kernel
theorem dX11_seen_11 : decode cX11_seen 11 = .ok (.bipush (-2), 2) := by decide +kernel
theorem dX11_seen_13 : decode cX11_seen 13 = .ok (.ireturn, 1) := by decide +kernel
theorem dX11_seen_14 : decode cX11_seen 14 = .ok (.iload_n 2, 1) := by decide +kernel
theorem dX11_seen_15 : decode cX11_seen 15 = .ok (.ifCond .lt 8, 3) := by decide +kernel
theorem dX11_seen_18 : decode cX11_seen 18 = .ok (.iload_n 2, 1) := by decide +kernel
theorem dX11_seen_19 : decode cX11_seen 19 = .ok (.iconst 1, 1) := by decide +kernel
theorem dX11_seen_20 : decode cX11_seen 20 = .ok (.if_icmp .le 6, 3) := by decide +kernel
theorem dX11_seen_23 : decode cX11_seen 23 = .ok (.bipush (-3), 2) := by decide +kernel
theorem dX11_seen_25 : decode cX11_seen 25 = .ok (.ireturn, 1) := by decide +kernel
theorem dX11_seen_26 : decode cX11_seen 26 = .ok (.aload_n 0, 1) := by decide +kernel
theorem dX11_seen_27 : decode cX11_seen 27 = .ok (.getfield 88, 3) := by decide +kernel
theorem dX11_seen_30 : decode cX11_seen 30 = .ok (.bipush 6, 2) := by decide +kernel
theorem dX11_seen_32 : decode cX11_seen 32 = .ok (.if_icmp .lt 6, 3) := by decide +kernel
theorem dX11_seen_35 : decode cX11_seen 35 = .ok (.bipush (-5), 2) := by decide +kernel
theorem dX11_seen_37 : decode cX11_seen 37 = .ok (.ireturn, 1) := by decide +kernel
theorem dX11_seen_38 : decode cX11_seen 38 = .ok (.aload_n 0, 1) := by decide +kernel
theorem dX11_seen_39 : decode cX11_seen 39 = .ok (.getfield 41, 3) := by decide +kernel
theorem dX11_seen_42 : decode cX11_seen 42 = .ok (.aload_n 0, 1) := by decide +kernel
theorem dX11_seen_43 : decode cX11_seen 43 = .ok (.getfield 88, 3) := by decide +kernel
theorem dX11_seen_46 : decode cX11_seen 46 = .ok (.iload_n 1, 1) := by decide +kernel
theorem dX11_seen_47 : decode cX11_seen 47 = .ok (.iastore, 1) := by decide +kernel
theorem dX11_seen_48 : decode cX11_seen 48 = .ok (.aload_n 0, 1) := by decide +kernel
theorem dX11_seen_49 : decode cX11_seen 49 = .ok (.getfield 45, 3) := by decide +kernel
theorem dX11_seen_52 : decode cX11_seen 52 = .ok (.aload_n 0, 1) := by decide +kernel
theorem dX11_seen_53 : decode cX11_seen 53 = .ok (.getfield 88, 3) := by decide +kernel
theorem dX11_seen_56 : decode cX11_seen 56 = .ok (.iload_n 2, 1) := by decide +kernel
theorem dX11_seen_57 : decode cX11_seen 57 = .ok (.iastore, 1) := by decide +kernel
theorem dX11_seen_58 : decode cX11_seen 58 = .ok (.aload_n 0, 1) := by decide +kernel
theorem dX11_seen_59 : decode cX11_seen 59 = .ok (.dup, 1) := by decide +kernel
theorem dX11_seen_60 : decode cX11_seen 60 = .ok (.getfield 88, 3) := by decide +kernel
theorem dX11_seen_63 : decode cX11_seen 63 = .ok (.iconst 1, 1) := by decide +kernel
theorem dX11_seen_64 : decode cX11_seen 64 = .ok (.iadd, 1) := by decide +kernel
theorem dX11_seen_65 : decode cX11_seen 65 = .ok (.putfield 88, 3) := by decide +kernel
theorem dX11_seen_68 : decode cX11_seen 68 = .ok (.aload_n 0, 1) := by decide +kernel
theorem dX11_seen_69 : decode cX11_seen 69 = .ok (.getfield 88, 3) := by decide +kernel
theorem dX11_seen_72 : decode cX11_seen 72 = .ok (.ireturn, 1) := by decide +kernel
theorem dX11_forget_0 : decode cX11_forget 0 = .ok (.aload_n 0, 1) := by decide +kernel
theorem dX11_forget_1 : decode cX11_forget 1 = .ok (.getfield 88, 3) := by decide +kernel
theorem dX11_forget_4 : decode cX11_forget 4 = .ok (.istore_n 1, 1) := by decide +kernel
theorem dX11_forget_5 : decode cX11_forget 5 = .ok (.aload_n 0, 1) := by decide +kernel
theorem dX11_forget_6 : decode cX11_forget 6 = .ok (.iconst 0, 1) := by decide +kernel
theorem dX11_forget_7 : decode cX11_forget 7 = .ok (.putfield 88, 3) := by decide +kernel
theorem dX11_forget_10 : decode cX11_forget 10 = .ok (.iload_n 1, 1) := by decide +kernel
theorem dX11_forget_11 : decode cX11_forget 11 = .ok (.ireturn, 1) := by decide +kernel
set_option maxRecDepth 20000 in
theorem ggX11_cuts_X11_isCutAsSeen : GoodIn wsX11_cuts wsX11_isCutAsSeen := goodIn_r _ [5, 6, 7, 8, 9, 10, 11, 12, 13, 14, 15, 16, 17, 18, 19, 20, 21, 22, 23, 24, 25, 26, 27, 28, 29, 30, 31, 32, 33, 34, 35, 36, 37, 38, 39, 40, 41, 42, 43, 44, 45, 46, 47, 48, 49, 50, 51, 52, 53, 54, 55, 56, 57, 58, 59, 60, 61, 62, 63] rfl (by decide +kernel)
set_option maxRecDepth 20000 in
theorem gX11_cuts_X11_isCutAsSeen : GoodIn wsX11_cuts (wsV RX11 275 RX11 yX11_isCutAsSeen wsX11_isCutAsSeen) := goodIn_app (goodIn_of _ (by decide +kernel)) ggX11_cuts_X11_isCutAsSeen
theorem dX11_cuts_0 : decode cX11_cuts 0 = .ok (.iload_n 1, 1) := by decide +kernel
theorem dX11_cuts_1 : decode cX11_cuts 1 = .ok (.ifCond .lt 8, 3) := by decide +kernel
theorem dX11_cuts_4 : decode cX11_cuts 4 = .ok (.iload_n 1, 1) := by decide +kernel
theorem dX11_cuts_5 : decode cX11_cuts 5 = .ok (.iconst 2, 1) := by decide +kernel
theorem dX11_cuts_6 : decode cX11_cuts 6 = .ok (.if_icmp .le 6, 3) := by decide +kernel
theorem dX11_cuts_9 : decode cX11_cuts 9 = .ok (.bipush (-3), 2) := by decide +kernel
theorem dX11_cuts_11 : decode cX11_cuts 11 = .ok (.ireturn, 1) := by decide +kernel
theorem dX11_cuts_12 : decode cX11_cuts 12 = .ok (.iconst 0, 1) := by decide +kernel
theorem dX11_cuts_13 : decode cX11_cuts 13 = .ok (.istore_n 2, 1) := by decide +kernel
theorem dX11_cuts_14 : decode cX11_cuts 14 = .ok (.sipush 511, 3) := by decide +kernel
theorem dX11_cuts_17 : decode cX11_cuts 17 = .ok (.istore_n 3, 1) := by decide +kernel
theorem dX11_cuts_18 : decode cX11_cuts 18 = .ok (.iconst 0, 1) := by decide +kernel
theorem dX11_cuts_19 : decode cX11_cuts 19 = .ok (.istore 4, 2) := by decide +kernel
theorem dX11_cuts_21 : decode cX11_cuts 21 = .ok (.iconst 0, 1) := by decide +kernel
theorem dX11_cuts_22 : decode cX11_cuts 22 = .ok (.istore 5, 2) := by decide +kernel
theorem dX11_cuts_24 : decode cX11_cuts 24 = .ok (.iload 5, 2) := by decide +kernel
theorem dX11_cuts_26 : decode cX11_cuts 26 = .ok (.sipush 511, 3) := by decide +kernel
theorem dX11_cuts_29 : decode cX11_cuts 29 = .ok (.if_icmp .gt 33, 3) := by decide +kernel
theorem dX11_cuts_32 : decode cX11_cuts 32 = .ok (.aload_n 0, 1) := by decide +kernel
theorem dX11_cuts_33 : decode cX11_cuts 33 = .ok (.iload 5, 2) := by decide +kernel
theorem dX11_cuts_35 : decode cX11_cuts 35 = .ok (.invokevirtual 275, 3) := by decide +kernel
theorem dX11_cuts_38 : decode cX11_cuts 38 = .ok (.ifCond .eq 18, 3) := by decide +kernel
theorem dX11_cuts_41 : decode cX11_cuts 41 = .ok (.iinc 2 1, 3) := by decide +kernel
theorem dX11_cuts_44 : decode cX11_cuts 44 = .ok (.iload_n 3, 1) := by decide +kernel
theorem dX11_cuts_45 : decode cX11_cuts 45 = .ok (.iload 5, 2) := by decide +kernel
theorem dX11_cuts_47 : decode cX11_cuts 47 = .ok (.iand, 1) := by decide +kernel
theorem dX11_cuts_48 : decode cX11_cuts 48 = .ok (.istore_n 3, 1) := by decide +kernel
theorem dX11_cuts_49 : decode cX11_cuts 49 = .ok (.iload 4, 2) := by decide +kernel
theorem dX11_cuts_51 : decode cX11_cuts 51 = .ok (.iload 5, 2) := by decide +kernel
theorem dX11_cuts_53 : decode cX11_cuts 53 = .ok (.ior, 1) := by decide +kernel
theorem dX11_cuts_54 : decode cX11_cuts 54 = .ok (.istore 4, 2) := by decide +kernel
theorem dX11_cuts_56 : decode cX11_cuts 56 = .ok (.iinc 5 1, 3) := by decide +kernel
theorem dX11_cuts_59 : decode cX11_cuts 59 = .ok (.goto (-35), 3) := by decide +kernel
theorem dX11_cuts_62 : decode cX11_cuts 62 = .ok (.iload_n 1, 1) := by decide +kernel
theorem dX11_cuts_63 : decode cX11_cuts 63 = .ok (.ifCond .eq 7, 3) := by decide +kernel
theorem dX11_cuts_66 : decode cX11_cuts 66 = .ok (.iload_n 2, 1) := by decide +kernel
theorem dX11_cuts_67 : decode cX11_cuts 67 = .ok (.ifCond .ne 5, 3) := by decide +kernel
theorem dX11_cuts_70 : decode cX11_cuts 70 = .ok (.iload_n 2, 1) := by decide +kernel
theorem dX11_cuts_71 : decode cX11_cuts 71 = .ok (.ireturn, 1) := by decide +kernel
theorem dX11_cuts_72 : decode cX11_cuts 72 = .ok (.iload_n 1, 1) := by decide +kernel
theorem dX11_cuts_73 : decode cX11_cuts 73 = .ok (.iconst 1, 1) := by decide +kernel
theorem dX11_cuts_74 : decode cX11_cuts 74 = .ok (.if_icmp .ne 7, 3) := by decide +kernel
theorem dX11_cuts_77 : decode cX11_cuts 77 = .ok (.iload_n 3, 1) := by decide +kernel
theorem dX11_cuts_78 : decode cX11_cuts 78 = .ok (.goto 5, 3) := by decide +kernel
theorem dX11_cuts_81 : decode cX11_cuts 81 = .ok (.iload 4, 2) := by decide +kernel
theorem dX11_cuts_83 : decode cX11_cuts 83 = .ok (.ireturn, 1) := by decide +kernel
set_option maxRecDepth 20000 in
theorem ggX11_how_X1_keyAt : GoodIn wsX11_how wsX1_keyAt := goodIn_r _ [6, 7, 8, 110, 111, 112, 113, 114, 115, 116] rfl (by decide +kernel)
set_option maxRecDepth 20000 in
theorem gX11_how_X1_keyAt : GoodIn wsX11_how (wsV RX11 97 RX1 yX1_keyAt wsX1_keyAt) := goodIn_app (goodIn_of _ (by decide +kernel)) ggX11_how_X1_keyAt
set_option maxRecDepth 20000 in
theorem ggX11_how_X11_isKeyAsSeen : GoodIn wsX11_how wsX11_isKeyAsSeen := goodIn_r _ [13, 14, 1, 15, 16, 17, 18, 19, 5, 20, 21, 22, 23, 24, 25, 26, 27, 28, 29, 30, 31, 32, 33, 34, 35, 36, 37, 38, 39, 40, 41, 42, 43, 44, 45, 46, 47, 48, 49, 50, 51, 52, 53, 54, 55, 56, 57, 58, 59, 60, 61, 62, 63, 64, 65, 66, 67, 68, 69, 70, 71, 72, 73, 74, 75, 76, 77, 78, 79, 80, 81, 82, 83, 84, 85, 86, 87, 88, 89, 90, 91, 92, 93, 94, 95, 96, 97, 98, 99, 100, 101, 102, 103, 104, 105, 106, 107, 108, 109, 110, 111, 112, 113, 114, 115, 116, 117, 118, 119, 120, 121, 122, 123, 124, 125, 126, 127, 128] rfl (by decide +kernel)
set_option maxRecDepth 20000 in
theorem gX11_how_X11_isKeyAsSeen : GoodIn wsX11_how (wsV RX11 278 RX11 yX11_isKeyAsSeen wsX11_isKeyAsSeen) := goodIn_app (goodIn_of _ (by decide +kernel)) ggX11_how_X11_isKeyAsSeen
theorem dX11_how_0 : decode cX11_how 0 = .ok (.aload_n 0, 1) := by decide +kernel
theorem dX11_how_1 : decode cX11_how 1 = .ok (.getfield 10, 3) := by decide +kernel
theorem dX11_how_4 : decode cX11_how 4 = .ok (.iload_n 1, 1) := by decide +kernel
theorem dX11_how_5 : decode cX11_how 5 = .ok (.invokevirtual 97, 3) := by decide +kernel
theorem dX11_how_8 : decode cX11_how 8 = .ok (.astore_n 2, 1) := by decide +kernel
theorem dX11_how_9 : decode cX11_how 9 = .ok (.aload_n 2, 1) := by decide +kernel
theorem dX11_how_10 : decode cX11_how 10 = .ok (.ifnonnull 6, 3) := by decide +kernel
theorem dX11_how_13 : decode cX11_how 13 = .ok (.bipush (-2), 2) := by decide +kernel
theorem dX11_how_15 : decode cX11_how 15 = .ok (.ireturn, 1) := by decide +kernel
theorem dX11_how_16 : decode cX11_how 16 = .ok (.iconst 0, 1) := by decide +kernel
theorem dX11_how_17 : decode cX11_how 17 = .ok (.istore_n 3, 1) := by decide +kernel
theorem dX11_how_18 : decode cX11_how 18 = .ok (.iconst 0, 1) := by decide +kernel
theorem dX11_how_19 : decode cX11_how 19 = .ok (.istore 4, 2) := by decide +kernel
theorem dX11_how_21 : decode cX11_how 21 = .ok (.iload 4, 2) := by decide +kernel
theorem dX11_how_23 : decode cX11_how 23 = .ok (.bipush 9, 2) := by decide +kernel
theorem dX11_how_25 : decode cX11_how 25 = .ok (.if_icmp .ge 26, 3) := by decide +kernel
theorem dX11_how_28 : decode cX11_how 28 = .ok (.aload_n 0, 1) := by decide +kernel
theorem dX11_how_29 : decode cX11_how 29 = .ok (.aload_n 2, 1) := by decide +kernel
theorem dX11_how_30 : decode cX11_how 30 = .ok (.iload 4, 2) := by decide +kernel
theorem dX11_how_32 : decode cX11_how 32 = .ok (.invokevirtual 278, 3) := by decide +kernel
theorem dX11_how_35 : decode cX11_how 35 = .ok (.ifCond .eq 10, 3) := by decide +kernel
theorem dX11_how_38 : decode cX11_how 38 = .ok (.iload_n 3, 1) := by decide +kernel
theorem dX11_how_39 : decode cX11_how 39 = .ok (.iconst 1, 1) := by decide +kernel
theorem dX11_how_40 : decode cX11_how 40 = .ok (.iload 4, 2) := by decide +kernel
theorem dX11_how_42 : decode cX11_how 42 = .ok (.ishl, 1) := by decide +kernel
theorem dX11_how_43 : decode cX11_how 43 = .ok (.ior, 1) := by decide +kernel
theorem dX11_how_44 : decode cX11_how 44 = .ok (.istore_n 3, 1) := by decide +kernel
theorem dX11_how_45 : decode cX11_how 45 = .ok (.iinc 4 1, 3) := by decide +kernel
theorem dX11_how_48 : decode cX11_how 48 = .ok (.goto (-27), 3) := by decide +kernel
theorem dX11_how_51 : decode cX11_how 51 = .ok (.iload_n 3, 1) := by decide +kernel
theorem dX11_how_52 : decode cX11_how 52 = .ok (.ireturn, 1) := by decide +kernel
set_option maxRecDepth 20000 in
theorem ggX11_odds_X1_lockAt : GoodIn wsX11_odds wsX1_lockAt := goodIn_r _ [10, 11, 12, 137, 138, 139, 140, 141, 142, 143] rfl (by decide +kernel)
set_option maxRecDepth 20000 in
theorem gX11_odds_X1_lockAt : GoodIn wsX11_odds (wsV RX11 127 RX1 yX1_lockAt wsX1_lockAt) := goodIn_app (goodIn_of _ (by decide +kernel)) ggX11_odds_X1_lockAt
set_option maxRecDepth 20000 in
theorem ggX11_odds_X1_allKeys : GoodIn wsX11_odds wsX1_allKeys := goodIn_r _ [16, 17, 137, 138, 139, 140, 141, 142, 143] rfl (by decide +kernel)
set_option maxRecDepth 20000 in
theorem gX11_odds_X1_allKeys : GoodIn wsX11_odds (wsV RX11 281 RX1 yX1_allKeys wsX1_allKeys) := goodIn_app (goodIn_of _ (by decide +kernel)) ggX11_odds_X1_allKeys
set_option maxRecDepth 20000 in
theorem ggX11_odds_J6_bitCount_0f7a4 : GoodIn wsX11_odds wsJ6_bitCount_0f7a4 := goodIn_r _ [21, 22, 23, 24] rfl (by decide +kernel)
set_option maxRecDepth 20000 in
theorem gX11_odds_J6_bitCount_0f7a4 : GoodIn wsX11_odds (va_wsS RX11 284 yJ6_bitCount_0f7a4 wsJ6_bitCount_0f7a4) := goodIn_app (goodIn_of _ (by decide +kernel)) ggX11_odds_J6_bitCount_0f7a4
set_option maxRecDepth 20000 in
theorem ggX11_odds_X11_keysFor : GoodIn wsX11_odds wsX11_keysFor := goodIn_r _ [29, 1, 30, 31, 32, 33, 34, 9, 35, 17, 36, 37, 38, 39, 40, 41, 42, 43, 44, 45, 46, 47, 48, 49, 50, 51, 52, 53, 54, 55, 56, 57, 58, 59, 60, 61, 62, 63, 64, 65, 66, 67, 68, 69, 70, 71, 72, 73, 74, 75, 76, 77, 78, 79, 80, 81, 82, 83, 84, 85, 86, 87, 88, 19, 20, 21, 22, 23, 24, 89, 90, 91, 92, 93, 94, 95, 96, 97, 98, 99, 100, 101, 102, 103, 104, 105, 106, 107, 108, 109, 123, 124, 125, 126, 127, 128, 129, 130, 131, 132, 133, 134, 135, 136, 137, 138, 139, 140, 141, 142, 143, 144, 145, 146, 147, 148, 149, 150, 151, 152, 153, 154, 155, 156, 157, 158, 159, 160, 161, 162] rfl (by decide +kernel)
set_option maxRecDepth 20000 in
theorem gX11_odds_X11_keysFor : GoodIn wsX11_odds (wsV RX11 230 RX11 yX11_keysFor wsX11_keysFor) := goodIn_app (goodIn_of _ (by decide +kernel)) ggX11_odds_X11_keysFor
set_option maxRecDepth 20000 in
theorem ggX11_odds_X11_choose : GoodIn wsX11_odds wsX11_choose := goodIn_r _ [112, 113] rfl (by decide +kernel)
set_option maxRecDepth 20000 in
theorem gX11_odds_X11_choose : GoodIn wsX11_odds (va_wsS RX11 294 yX11_choose wsX11_choose) := goodIn_app (goodIn_of _ (by decide +kernel)) ggX11_odds_X11_choose
set_option maxRecDepth 20000 in
theorem ggX11_odds_X11_lowest : GoodIn wsX11_odds wsX11_lowest := goodIn_r _ [116, 117, 118, 4, 119, 120, 121, 28, 122] rfl (by decide +kernel)
set_option maxRecDepth 20000 in
theorem gX11_odds_X11_lowest : GoodIn wsX11_odds (va_wsS RX11 297 yX11_lowest wsX11_lowest) := goodIn_app (goodIn_of _ (by decide +kernel)) ggX11_odds_X11_lowest
theorem dX11_odds_0 : decode cX11_odds 0 = .ok (.aload_n 0, 1) := by decide +kernel
theorem dX11_odds_1 : decode cX11_odds 1 = .ok (.getfield 10, 3) := by decide +kernel
theorem dX11_odds_4 : decode cX11_odds 4 = .ok (.iload_n 2, 1) := by decide +kernel
theorem dX11_odds_5 : decode cX11_odds 5 = .ok (.invokevirtual 127, 3) := by decide +kernel
theorem dX11_odds_8 : decode cX11_odds 8 = .ok (.astore 5, 2) := by decide +kernel
theorem dX11_odds_10 : decode cX11_odds 10 = .ok (.aload 5, 2) := by decide +kernel
theorem dX11_odds_12 : decode cX11_odds 12 = .ok (.ifnull 17, 3) := by decide +kernel
theorem dX11_odds_15 : decode cX11_odds 15 = .ok (.iload_n 1, 1) := by decide +kernel
theorem dX11_odds_16 : decode cX11_odds 16 = .ok (.aload_n 0, 1) := by decide +kernel
theorem dX11_odds_17 : decode cX11_odds 17 = .ok (.getfield 10, 3) := by decide +kernel
theorem dX11_odds_20 : decode cX11_odds 20 = .ok (.invokevirtual 281, 3) := by decide +kernel
theorem dX11_odds_23 : decode cX11_odds 23 = .ok (.iconst (-1), 1) := by decide +kernel
theorem dX11_odds_24 : decode cX11_odds 24 = .ok (.ixor, 1) := by decide +kernel
theorem dX11_odds_25 : decode cX11_odds 25 = .ok (.iand, 1) := by decide +kernel
theorem dX11_odds_26 : decode cX11_odds 26 = .ok (.ifCond .eq 6, 3) := by decide +kernel
theorem dX11_odds_29 : decode cX11_odds 29 = .ok (.bipush (-2), 2) := by decide +kernel
theorem dX11_odds_31 : decode cX11_odds 31 = .ok (.ireturn, 1) := by decide +kernel
theorem dX11_odds_32 : decode cX11_odds 32 = .ok (.iload_n 3, 1) := by decide +kernel
theorem dX11_odds_33 : decode cX11_odds 33 = .ok (.ifCond .lt 20, 3) := by decide +kernel
theorem dX11_odds_36 : decode cX11_odds 36 = .ok (.iload_n 3, 1) := by decide +kernel
theorem dX11_odds_37 : decode cX11_odds 37 = .ok (.bipush 7, 2) := by decide +kernel
theorem dX11_odds_39 : decode cX11_odds 39 = .ok (.if_icmp .gt 14, 3) := by decide +kernel
theorem dX11_odds_42 : decode cX11_odds 42 = .ok (.iload 4, 2) := by decide +kernel
theorem dX11_odds_44 : decode cX11_odds 44 = .ok (.ifCond .lt 9, 3) := by decide +kernel
theorem dX11_odds_47 : decode cX11_odds 47 = .ok (.iload 4, 2) := by decide +kernel
theorem dX11_odds_49 : decode cX11_odds 49 = .ok (.iconst 1, 1) := by decide +kernel
theorem dX11_odds_50 : decode cX11_odds 50 = .ok (.if_icmp .le 6, 3) := by decide +kernel
theorem dX11_odds_53 : decode cX11_odds 53 = .ok (.bipush (-3), 2) := by decide +kernel
theorem dX11_odds_55 : decode cX11_odds 55 = .ok (.ireturn, 1) := by decide +kernel
theorem dX11_odds_56 : decode cX11_odds 56 = .ok (.iload_n 1, 1) := by decide +kernel
theorem dX11_odds_57 : decode cX11_odds 57 = .ok (.ifCond .ne 6, 3) := by decide +kernel
theorem dX11_odds_60 : decode cX11_odds 60 = .ok (.bipush (-16), 2) := by decide +kernel
theorem dX11_odds_62 : decode cX11_odds 62 = .ok (.ireturn, 1) := by decide +kernel
theorem dX11_odds_63 : decode cX11_odds 63 = .ok (.iload_n 1, 1) := by decide +kernel
theorem dX11_odds_64 : decode cX11_odds 64 = .ok (.invokestatic 284, 3) := by decide +kernel
theorem dX11_odds_67 : decode cX11_odds 67 = .ok (.istore 6, 2) := by decide +kernel
theorem dX11_odds_69 : decode cX11_odds 69 = .ok (.iload_n 1, 1) := by decide +kernel
theorem dX11_odds_70 : decode cX11_odds 70 = .ok (.aload_n 0, 1) := by decide +kernel
theorem dX11_odds_71 : decode cX11_odds 71 = .ok (.aload 5, 2) := by decide +kernel
theorem dX11_odds_73 : decode cX11_odds 73 = .ok (.invokevirtual 230, 3) := by decide +kernel
theorem dX11_odds_76 : decode cX11_odds 76 = .ok (.iconst (-1), 1) := by decide +kernel
theorem dX11_odds_77 : decode cX11_odds 77 = .ok (.ixor, 1) := by decide +kernel
theorem dX11_odds_78 : decode cX11_odds 78 = .ok (.iand, 1) := by decide +kernel
theorem dX11_odds_79 : decode cX11_odds 79 = .ok (.invokestatic 284, 3) := by decide +kernel
theorem dX11_odds_82 : decode cX11_odds 82 = .ok (.istore 7, 2) := by decide +kernel
theorem dX11_odds_84 : decode cX11_odds 84 = .ok (.iload_n 3, 1) := by decide +kernel
theorem dX11_odds_85 : decode cX11_odds 85 = .ok (.iload 6, 2) := by decide +kernel
theorem dX11_odds_87 : decode cX11_odds 87 = .ok (.invokestatic 289, 3) := by decide +kernel
theorem dX11_odds_90 : decode cX11_odds 90 = .ok (.istore 8, 2) := by decide +kernel
theorem dX11_odds_92 : decode cX11_odds 92 = .ok (.iload 6, 2) := by decide +kernel
theorem dX11_odds_94 : decode cX11_odds 94 = .ok (.iload 8, 2) := by decide +kernel
theorem dX11_odds_96 : decode cX11_odds 96 = .ok (.invokestatic 294, 3) := by decide +kernel
theorem dX11_odds_99 : decode cX11_odds 99 = .ok (.istore 9, 2) := by decide +kernel
theorem dX11_odds_101 : decode cX11_odds 101 = .ok (.iload 9, 2) := by decide +kernel
theorem dX11_odds_103 : decode cX11_odds 103 = .ok (.iload 7, 2) := by decide +kernel
theorem dX11_odds_105 : decode cX11_odds 105 = .ok (.iload 8, 2) := by decide +kernel
theorem dX11_odds_107 : decode cX11_odds 107 = .ok (.invokestatic 294, 3) := by decide +kernel
theorem dX11_odds_110 : decode cX11_odds 110 = .ok (.isub, 1) := by decide +kernel
theorem dX11_odds_111 : decode cX11_odds 111 = .ok (.i2l, 1) := by decide +kernel
theorem dX11_odds_112 : decode cX11_odds 112 = .ok (.iload 9, 2) := by decide +kernel
theorem dX11_odds_114 : decode cX11_odds 114 = .ok (.i2l, 1) := by decide +kernel
theorem dX11_odds_115 : decode cX11_odds 115 = .ok (.iload 4, 2) := by decide +kernel
theorem dX11_odds_117 : decode cX11_odds 117 = .ok (.invokestatic 297, 3) := by decide +kernel
theorem dX11_odds_120 : decode cX11_odds 120 = .ok (.l2i, 1) := by decide +kernel
theorem dX11_odds_121 : decode cX11_odds 121 = .ok (.ireturn, 1) := by decide +kernel
set_option maxRecDepth 20000 in
theorem ggX11_rack_X11_rackAt : GoodIn wsX11_rack wsX11_rackAt := goodIn_r _ [5, 6, 18, 19, 20, 21, 22, 23, 24, 25, 26, 27, 28, 29, 30, 31] rfl (by decide +kernel)
set_option maxRecDepth 20000 in
theorem gX11_rack_X11_rackAt : GoodIn wsX11_rack (wsV RX11 301 RX11 yX11_rackAt wsX11_rackAt) := goodIn_app (goodIn_of _ (by decide +kernel)) ggX11_rack_X11_rackAt
set_option maxRecDepth 20000 in
theorem ggX11_rack_X11_isLane : GoodIn wsX11_rack wsX11_isLane := goodIn_r _ [9] rfl (by decide +kernel)
set_option maxRecDepth 20000 in
theorem gX11_rack_X11_isLane : GoodIn wsX11_rack (va_wsS RX11 305 yX11_isLane wsX11_isLane) := goodIn_app (goodIn_of _ (by decide +kernel)) ggX11_rack_X11_isLane
set_option maxRecDepth 20000 in
theorem ggX11_rack_X7_begin : GoodIn wsX11_rack wsX7_begin := goodIn_r _ [14, 15, 16, 17, 32, 33, 34] rfl (by decide +kernel)
set_option maxRecDepth 20000 in
theorem gX11_rack_X7_begin : GoodIn wsX11_rack (wsV RX11 308 RX7 yX7_begin wsX7_begin) := goodIn_app (goodIn_of _ (by decide +kernel)) ggX11_rack_X7_begin
theorem dX11_rack_0 : decode cX11_rack 0 = .ok (.aload_n 0, 1) := by decide +kernel
theorem dX11_rack_1 : decode cX11_rack 1 = .ok (.iload_n 1, 1) := by decide +kernel
theorem dX11_rack_2 : decode cX11_rack 2 = .ok (.invokevirtual 301, 3) := by decide +kernel
theorem dX11_rack_5 : decode cX11_rack 5 = .ok (.astore 4, 2) := by decide +kernel
theorem dX11_rack_7 : decode cX11_rack 7 = .ok (.aload 4, 2) := by decide +kernel
theorem dX11_rack_9 : decode cX11_rack 9 = .ok (.ifnonnull 6, 3) := by decide +kernel
theorem dX11_rack_12 : decode cX11_rack 12 = .ok (.bipush (-2), 2) := by decide +kernel
theorem dX11_rack_14 : decode cX11_rack 14 = .ok (.ireturn, 1) := by decide +kernel
theorem dX11_rack_15 : decode cX11_rack 15 = .ok (.iload_n 2, 1) := by decide +kernel
theorem dX11_rack_16 : decode cX11_rack 16 = .ok (.invokestatic 305, 3) := by decide +kernel
theorem dX11_rack_19 : decode cX11_rack 19 = .ok (.ifCond .eq 9, 3) := by decide +kernel
theorem dX11_rack_22 : decode cX11_rack 22 = .ok (.iload_n 3, 1) := by decide +kernel
theorem dX11_rack_23 : decode cX11_rack 23 = .ok (.bipush 24, 2) := by decide +kernel
theorem dX11_rack_25 : decode cX11_rack 25 = .ok (.if_icmp .le 6, 3) := by decide +kernel
theorem dX11_rack_28 : decode cX11_rack 28 = .ok (.bipush (-3), 2) := by decide +kernel
theorem dX11_rack_30 : decode cX11_rack 30 = .ok (.ireturn, 1) := by decide +kernel
theorem dX11_rack_31 : decode cX11_rack 31 = .ok (.iload_n 3, 1) := by decide +kernel
theorem dX11_rack_32 : decode cX11_rack 32 = .ok (.ifCond .ge 6, 3) := by decide +kernel
theorem dX11_rack_35 : decode cX11_rack 35 = .ok (.bipush (-14), 2) := by decide +kernel
theorem dX11_rack_37 : decode cX11_rack 37 = .ok (.ireturn, 1) := by decide +kernel
theorem dX11_rack_38 : decode cX11_rack 38 = .ok (.aload 4, 2) := by decide +kernel
theorem dX11_rack_40 : decode cX11_rack 40 = .ok (.iload_n 2, 1) := by decide +kernel
theorem dX11_rack_41 : decode cX11_rack 41 = .ok (.iload_n 3, 1) := by decide +kernel
theorem dX11_rack_42 : decode cX11_rack 42 = .ok (.invokevirtual 308, 3) := by decide +kernel
theorem dX11_rack_45 : decode cX11_rack 45 = .ok (.iload_n 3, 1) := by decide +kernel
theorem dX11_rack_46 : decode cX11_rack 46 = .ok (.ireturn, 1) := by decide +kernel
set_option maxRecDepth 20000 in
theorem ggX11_hang_X11_rackAt : GoodIn wsX11_hang wsX11_rackAt := goodIn_r _ [6, 7, 34, 35, 36, 37, 38, 39, 40, 41, 42, 43, 44, 45, 46, 47] rfl (by decide +kernel)
set_option maxRecDepth 20000 in
theorem gX11_hang_X11_rackAt : GoodIn wsX11_hang (wsV RX11 301 RX11 yX11_rackAt wsX11_rackAt) := goodIn_app (goodIn_of _ (by decide +kernel)) ggX11_hang_X11_rackAt
set_option maxRecDepth 20000 in
theorem ggX11_hang_X11_isLane : GoodIn wsX11_hang wsX11_isLane := goodIn_r _ [10] rfl (by decide +kernel)
set_option maxRecDepth 20000 in
theorem gX11_hang_X11_isLane : GoodIn wsX11_hang (va_wsS RX11 305 yX11_isLane wsX11_isLane) := goodIn_app (goodIn_of _ (by decide +kernel)) ggX11_hang_X11_isLane
set_option maxRecDepth 20000 in
theorem ggX11_hang_X7_isMissing : GoodIn wsX11_hang wsX7_isMissing := goodIn_r _ [15, 16, 31, 32, 33] rfl (by decide +kernel)
set_option maxRecDepth 20000 in
theorem gX11_hang_X7_isMissing : GoodIn wsX11_hang (wsV RX11 310 RX7 yX7_isMissing wsX7_isMissing) := goodIn_app (goodIn_of _ (by decide +kernel)) ggX11_hang_X7_isMissing
set_option maxRecDepth 20000 in
theorem ggX11_hang_X7_spans : GoodIn wsX11_hang wsX7_spans := goodIn_r _ [20, 21, 31, 32, 33] rfl (by decide +kernel)
set_option maxRecDepth 20000 in
theorem gX11_hang_X7_spans : GoodIn wsX11_hang (wsV RX11 316 RX7 yX7_spans wsX7_spans) := goodIn_app (goodIn_of _ (by decide +kernel)) ggX11_hang_X7_spans
set_option maxRecDepth 20000 in
theorem ggX11_hang_X7_put : GoodIn wsX11_hang wsX7_put := goodIn_r _ [25, 21, 26, 27, 28, 29, 14, 30, 16, 31, 32, 33] rfl (by decide +kernel)
set_option maxRecDepth 20000 in
theorem gX11_hang_X7_put : GoodIn wsX11_hang (wsV RX11 319 RX7 yX7_put wsX7_put) := goodIn_app (goodIn_of _ (by decide +kernel)) ggX11_hang_X7_put
theorem dX11_hang_0 : decode cX11_hang 0 = .ok (.aload_n 0, 1) := by decide +kernel
theorem dX11_hang_1 : decode cX11_hang 1 = .ok (.iload_n 1, 1) := by decide +kernel
theorem dX11_hang_2 : decode cX11_hang 2 = .ok (.invokevirtual 301, 3) := by decide +kernel
theorem dX11_hang_5 : decode cX11_hang 5 = .ok (.astore 6, 2) := by decide +kernel
theorem dX11_hang_7 : decode cX11_hang 7 = .ok (.aload 6, 2) := by decide +kernel
theorem dX11_hang_9 : decode cX11_hang 9 = .ok (.ifnonnull 6, 3) := by decide +kernel
theorem dX11_hang_12 : decode cX11_hang 12 = .ok (.bipush (-2), 2) := by decide +kernel
theorem dX11_hang_14 : decode cX11_hang 14 = .ok (.ireturn, 1) := by decide +kernel
theorem dX11_hang_15 : decode cX11_hang 15 = .ok (.iload_n 2, 1) := by decide +kernel
theorem dX11_hang_16 : decode cX11_hang 16 = .ok (.invokestatic 305, 3) := by decide +kernel
theorem dX11_hang_19 : decode cX11_hang 19 = .ok (.ifCond .ne 6, 3) := by decide +kernel
theorem dX11_hang_22 : decode cX11_hang 22 = .ok (.bipush (-3), 2) := by decide +kernel
theorem dX11_hang_24 : decode cX11_hang 24 = .ok (.ireturn, 1) := by decide +kernel
theorem dX11_hang_25 : decode cX11_hang 25 = .ok (.aload 6, 2) := by decide +kernel
theorem dX11_hang_27 : decode cX11_hang 27 = .ok (.invokevirtual 310, 3) := by decide +kernel
theorem dX11_hang_30 : decode cX11_hang 30 = .ok (.ifCond .eq 6, 3) := by decide +kernel
