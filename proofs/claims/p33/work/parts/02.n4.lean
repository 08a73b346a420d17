theorem dX12_number_52 : decode cX12_number 52 = .ok (.aload_n 0, 1) := by decide +kernel
theorem dX12_number_53 : decode cX12_number 53 = .ok (.getfield 126, 3) := by decide +kernel
theorem dX12_number_56 : decode cX12_number 56 = .ok (.if_icmp .ge 27, 3) := by decide +kernel
theorem dX12_number_59 : decode cX12_number 59 = .ok (.bipush 10, 2) := by decide +kernel
theorem dX12_number_61 : decode cX12_number 61 = .ok (.iload 4, 2) := by decide +kernel
theorem dX12_number_63 : decode cX12_number 63 = .ok (.imul, 1) := by decide +kernel
theorem dX12_number_64 : decode cX12_number 64 = .ok (.aload_n 0, 1) := by decide +kernel
theorem dX12_number_65 : decode cX12_number 65 = .ok (.getfield 45, 3) := by decide +kernel
theorem dX12_number_68 : decode cX12_number 68 = .ok (.iload 5, 2) := by decide +kernel
theorem dX12_number_70 : decode cX12_number 70 = .ok (.iaload, 1) := by decide +kernel
theorem dX12_number_71 : decode cX12_number 71 = .ok (.iadd, 1) := by decide +kernel
theorem dX12_number_72 : decode cX12_number 72 = .ok (.bipush 48, 2) := by decide +kernel
theorem dX12_number_74 : decode cX12_number 74 = .ok (.isub, 1) := by decide +kernel
theorem dX12_number_75 : decode cX12_number 75 = .ok (.istore 4, 2) := by decide +kernel
theorem dX12_number_77 : decode cX12_number 77 = .ok (.iinc 5 1, 3) := by decide +kernel
theorem dX12_number_80 : decode cX12_number 80 = .ok (.goto (-30), 3) := by decide +kernel
theorem dX12_number_83 : decode cX12_number 83 = .ok (.iload 4, 2) := by decide +kernel
theorem dX12_number_85 : decode cX12_number 85 = .ok (.i2l, 1) := by decide +kernel
theorem dX12_number_86 : decode cX12_number 86 = .ok (.iload_n 2, 1) := by decide +kernel
theorem dX12_number_87 : decode cX12_number 87 = .ok (.i2l, 1) := by decide +kernel
theorem dX12_number_88 : decode cX12_number 88 = .ok (.iload_n 3, 1) := by decide +kernel
theorem dX12_number_89 : decode cX12_number 89 = .ok (.i2l, 1) := by decide +kernel
theorem dX12_number_90 : decode cX12_number 90 = .ok (.invokestatic 111, 3) := by decide +kernel
theorem dX12_number_93 : decode cX12_number 93 = .ok (.ifCond .ne 5, 3) := by decide +kernel
theorem dX12_number_96 : decode cX12_number 96 = .ok (.iconst 0, 1) := by decide +kernel
theorem dX12_number_97 : decode cX12_number 97 = .ok (.ireturn, 1) := by decide +kernel
theorem dX12_number_98 : decode cX12_number 98 = .ok (.aload_n 0, 1) := by decide +kernel
theorem dX12_number_99 : decode cX12_number 99 = .ok (.getfield 54, 3) := by decide +kernel
theorem dX12_number_102 : decode cX12_number 102 = .ok (.iload_n 1, 1) := by decide +kernel
theorem dX12_number_103 : decode cX12_number 103 = .ok (.iload 4, 2) := by decide +kernel
theorem dX12_number_105 : decode cX12_number 105 = .ok (.iastore, 1) := by decide +kernel
theorem dX12_number_106 : decode cX12_number 106 = .ok (.aload_n 0, 1) := by decide +kernel
theorem dX12_number_107 : decode cX12_number 107 = .ok (.invokevirtual 139, 3) := by decide +kernel
theorem dX12_number_110 : decode cX12_number 110 = .ok (.iconst 1, 1) := by decide +kernel
theorem dX12_number_111 : decode cX12_number 111 = .ok (.ireturn, 1) := by decide +kernel
theorem dX12_empty_0 : decode cX12_empty 0 = .ok (.aload_n 0, 1) := by decide +kernel
theorem dX12_empty_1 : decode cX12_empty 1 = .ok (.iconst 0, 1) := by decide +kernel
theorem dX12_empty_2 : decode cX12_empty 2 = .ok (.putfield 142, 3) := by decide +kernel
theorem dX12_empty_5 : decode cX12_empty 5 = .ok (.aload_n 0, 1) := by decide +kernel
theorem dX12_empty_6 : decode cX12_empty 6 = .ok (.iconst 0, 1) := by decide +kernel
theorem dX12_empty_7 : decode cX12_empty 7 = .ok (.putfield 145, 3) := by decide +kernel
theorem dX12_empty_10 : decode cX12_empty 10 = .ok (.aload_n 0, 1) := by decide +kernel
theorem dX12_empty_11 : decode cX12_empty 11 = .ok (.iconst 0, 1) := by decide +kernel
theorem dX12_empty_12 : decode cX12_empty 12 = .ok (.putfield 148, 3) := by decide +kernel
theorem dX12_empty_15 : decode cX12_empty 15 = .ok (.aload_n 0, 1) := by decide +kernel
theorem dX12_empty_16 : decode cX12_empty 16 = .ok (.bipush 60, 2) := by decide +kernel
theorem dX12_empty_18 : decode cX12_empty 18 = .ok (.putfield 41, 3) := by decide +kernel
theorem dX12_empty_21 : decode cX12_empty 21 = .ok (.return_, 1) := by decide +kernel
set_option maxRecDepth 20000 in
theorem ggX12_kindHere_X12_isWord : GoodIn wsX12_kindHere wsX12_isWord := goodIn_r _ [9, 10, 11, 12, 13, 14, 15, 16, 17, 18, 19, 20, 21, 22, 23, 24, 25, 26, 27, 28, 29, 30, 31, 32, 33, 34, 35, 36, 37, 38, 39, 40, 41, 42, 43, 44, 45, 46, 47, 48, 49, 50, 51, 52, 53, 54, 55, 56, 57] rfl (by decide +kernel)
set_option maxRecDepth 20000 in
theorem gX12_kindHere_X12_isWord : GoodIn wsX12_kindHere (wsV RX12 151 RX12 yX12_isWord wsX12_isWord) := goodIn_app (goodIn_of _ (by decide +kernel)) ggX12_kindHere_X12_isWord
theorem dX12_kindHere_0 : decode cX12_kindHere 0 = .ok (.aload_n 0, 1) := by decide +kernel
theorem dX12_kindHere_1 : decode cX12_kindHere 1 = .ok (.aload_n 0, 1) := by decide +kernel
theorem dX12_kindHere_2 : decode cX12_kindHere 2 = .ok (.getfield 57, 3) := by decide +kernel
theorem dX12_kindHere_5 : decode cX12_kindHere 5 = .ok (.invokevirtual 151, 3) := by decide +kernel
theorem dX12_kindHere_8 : decode cX12_kindHere 8 = .ok (.ifCond .eq 7, 3) := by decide +kernel
theorem dX12_kindHere_11 : decode cX12_kindHere 11 = .ok (.iconst 0, 1) := by decide +kernel
theorem dX12_kindHere_12 : decode cX12_kindHere 12 = .ok (.goto 49, 3) := by decide +kernel
theorem dX12_kindHere_15 : decode cX12_kindHere 15 = .ok (.aload_n 0, 1) := by decide +kernel
theorem dX12_kindHere_16 : decode cX12_kindHere 16 = .ok (.aload_n 0, 1) := by decide +kernel
theorem dX12_kindHere_17 : decode cX12_kindHere 17 = .ok (.getfield 60, 3) := by decide +kernel
theorem dX12_kindHere_20 : decode cX12_kindHere 20 = .ok (.invokevirtual 151, 3) := by decide +kernel
theorem dX12_kindHere_23 : decode cX12_kindHere 23 = .ok (.ifCond .eq 7, 3) := by decide +kernel
theorem dX12_kindHere_26 : decode cX12_kindHere 26 = .ok (.iconst 1, 1) := by decide +kernel
theorem dX12_kindHere_27 : decode cX12_kindHere 27 = .ok (.goto 34, 3) := by decide +kernel
theorem dX12_kindHere_30 : decode cX12_kindHere 30 = .ok (.aload_n 0, 1) := by decide +kernel
theorem dX12_kindHere_31 : decode cX12_kindHere 31 = .ok (.aload_n 0, 1) := by decide +kernel
theorem dX12_kindHere_32 : decode cX12_kindHere 32 = .ok (.getfield 63, 3) := by decide +kernel
theorem dX12_kindHere_35 : decode cX12_kindHere 35 = .ok (.invokevirtual 151, 3) := by decide +kernel
theorem dX12_kindHere_38 : decode cX12_kindHere 38 = .ok (.ifCond .eq 7, 3) := by decide +kernel
theorem dX12_kindHere_41 : decode cX12_kindHere 41 = .ok (.iconst 2, 1) := by decide +kernel
theorem dX12_kindHere_42 : decode cX12_kindHere 42 = .ok (.goto 19, 3) := by decide +kernel
theorem dX12_kindHere_45 : decode cX12_kindHere 45 = .ok (.aload_n 0, 1) := by decide +kernel
theorem dX12_kindHere_46 : decode cX12_kindHere 46 = .ok (.aload_n 0, 1) := by decide +kernel
theorem dX12_kindHere_47 : decode cX12_kindHere 47 = .ok (.getfield 66, 3) := by decide +kernel
theorem dX12_kindHere_50 : decode cX12_kindHere 50 = .ok (.invokevirtual 151, 3) := by decide +kernel
theorem dX12_kindHere_53 : decode cX12_kindHere 53 = .ok (.ifCond .eq 7, 3) := by decide +kernel
theorem dX12_kindHere_56 : decode cX12_kindHere 56 = .ok (.iconst 3, 1) := by decide +kernel
theorem dX12_kindHere_57 : decode cX12_kindHere 57 = .ok (.goto 4, 3) := by decide +kernel
theorem dX12_kindHere_60 : decode cX12_kindHere 60 = .ok (.iconst (-1), 1) := by decide +kernel
theorem dX12_kindHere_61 : decode cX12_kindHere 61 = .ok (.ireturn, 1) := by decide +kernel
set_option maxRecDepth 20000 in
theorem ggX12_readsKey_X12_nextToken : GoodIn wsX12_readsKey wsX12_nextToken := goodIn_r _ [12, 13, 14, 15, 16, 17, 18, 11, 19, 20, 21, 22, 23, 24, 25, 26, 27, 28, 29, 34, 35, 36, 37, 38, 39, 40, 41, 42, 43, 44, 45, 46, 47, 48, 49, 50, 51, 52, 53, 54, 55, 56, 57, 58, 59, 60, 61, 62, 63, 64, 65, 66, 67, 68, 69, 70, 71, 72, 73, 74, 75, 76, 77, 78] rfl (by decide +kernel)
set_option maxRecDepth 20000 in
theorem gX12_readsKey_X12_nextToken : GoodIn wsX12_readsKey (wsV RX12 139 RX12 yX12_nextToken wsX12_nextToken) := goodIn_app (goodIn_of _ (by decide +kernel)) ggX12_readsKey_X12_nextToken
set_option maxRecDepth 20000 in
theorem ggX12_readsKey_X12_number : GoodIn wsX12_readsKey wsX12_number := goodIn_r _ [33, 14, 15, 16, 13, 2, 25, 26, 11, 27, 28, 29, 22, 23, 24, 8, 9, 10, 12, 17, 18, 19, 20, 21, 34, 35, 36, 37, 38, 39, 40, 41, 42, 43, 44, 45, 46, 47, 48, 49, 50, 51, 52, 53, 54, 55, 56, 57, 58, 59, 60, 61, 62, 63, 64, 65, 66, 67, 68, 69, 70, 71, 72, 73, 74, 75, 76, 77, 78] rfl (by decide +kernel)
set_option maxRecDepth 20000 in
theorem gX12_readsKey_X12_number : GoodIn wsX12_readsKey (wsV RX12 158 RX12 yX12_number wsX12_number) := goodIn_app (goodIn_of _ (by decide +kernel)) ggX12_readsKey_X12_number
theorem dX12_readsKey_0 : decode cX12_readsKey 0 = .ok (.aload_n 0, 1) := by decide +kernel
theorem dX12_readsKey_1 : decode cX12_readsKey 1 = .ok (.getfield 155, 3) := by decide +kernel
theorem dX12_readsKey_4 : decode cX12_readsKey 4 = .ok (.bipush 7, 2) := by decide +kernel
theorem dX12_readsKey_6 : decode cX12_readsKey 6 = .ok (.if_icmp .ne 5, 3) := by decide +kernel
theorem dX12_readsKey_9 : decode cX12_readsKey 9 = .ok (.iconst 0, 1) := by decide +kernel
theorem dX12_readsKey_10 : decode cX12_readsKey 10 = .ok (.ireturn, 1) := by decide +kernel
theorem dX12_readsKey_11 : decode cX12_readsKey 11 = .ok (.aload_n 0, 1) := by decide +kernel
theorem dX12_readsKey_12 : decode cX12_readsKey 12 = .ok (.invokevirtual 139, 3) := by decide +kernel
theorem dX12_readsKey_15 : decode cX12_readsKey 15 = .ok (.aload_n 0, 1) := by decide +kernel
theorem dX12_readsKey_16 : decode cX12_readsKey 16 = .ok (.getfield 54, 3) := by decide +kernel
theorem dX12_readsKey_19 : decode cX12_readsKey 19 = .ok (.iconst 1, 1) := by decide +kernel
theorem dX12_readsKey_20 : decode cX12_readsKey 20 = .ok (.iconst 0, 1) := by decide +kernel
theorem dX12_readsKey_21 : decode cX12_readsKey 21 = .ok (.iastore, 1) := by decide +kernel
theorem dX12_readsKey_22 : decode cX12_readsKey 22 = .ok (.aload_n 0, 1) := by decide +kernel
theorem dX12_readsKey_23 : decode cX12_readsKey 23 = .ok (.iconst 0, 1) := by decide +kernel
theorem dX12_readsKey_24 : decode cX12_readsKey 24 = .ok (.iconst 0, 1) := by decide +kernel
theorem dX12_readsKey_25 : decode cX12_readsKey 25 = .ok (.sipush 511, 3) := by decide +kernel
theorem dX12_readsKey_28 : decode cX12_readsKey 28 = .ok (.invokevirtual 158, 3) := by decide +kernel
theorem dX12_readsKey_31 : decode cX12_readsKey 31 = .ok (.ifCond .eq 24, 3) := by decide +kernel
theorem dX12_readsKey_34 : decode cX12_readsKey 34 = .ok (.iload_n 1, 1) := by decide +kernel
theorem dX12_readsKey_35 : decode cX12_readsKey 35 = .ok (.iconst 1, 1) := by decide +kernel
theorem dX12_readsKey_36 : decode cX12_readsKey 36 = .ok (.if_icmp .eq 8, 3) := by decide +kernel
theorem dX12_readsKey_39 : decode cX12_readsKey 39 = .ok (.iload_n 1, 1) := by decide +kernel
theorem dX12_readsKey_40 : decode cX12_readsKey 40 = .ok (.iconst 3, 1) := by decide +kernel
theorem dX12_readsKey_41 : decode cX12_readsKey 41 = .ok (.if_icmp .ne 16, 3) := by decide +kernel
theorem dX12_readsKey_44 : decode cX12_readsKey 44 = .ok (.aload_n 0, 1) := by decide +kernel
theorem dX12_readsKey_45 : decode cX12_readsKey 45 = .ok (.iconst 1, 1) := by decide +kernel
theorem dX12_readsKey_46 : decode cX12_readsKey 46 = .ok (.iconst 0, 1) := by decide +kernel
theorem dX12_readsKey_47 : decode cX12_readsKey 47 = .ok (.bipush 9, 2) := by decide +kernel
theorem dX12_readsKey_49 : decode cX12_readsKey 49 = .ok (.invokevirtual 158, 3) := by decide +kernel
theorem dX12_readsKey_52 : decode cX12_readsKey 52 = .ok (.ifCond .ne 5, 3) := by decide +kernel
theorem dX12_readsKey_55 : decode cX12_readsKey 55 = .ok (.iconst 0, 1) := by decide +kernel
theorem dX12_readsKey_56 : decode cX12_readsKey 56 = .ok (.ireturn, 1) := by decide +kernel
theorem dX12_readsKey_57 : decode cX12_readsKey 57 = .ok (.aload_n 0, 1) := by decide +kernel
theorem dX12_readsKey_58 : decode cX12_readsKey 58 = .ok (.dup, 1) := by decide +kernel
theorem dX12_readsKey_59 : decode cX12_readsKey 59 = .ok (.getfield 155, 3) := by decide +kernel
theorem dX12_readsKey_62 : decode cX12_readsKey 62 = .ok (.iconst 1, 1) := by decide +kernel
theorem dX12_readsKey_63 : decode cX12_readsKey 63 = .ok (.iadd, 1) := by decide +kernel
theorem dX12_readsKey_64 : decode cX12_readsKey 64 = .ok (.putfield 155, 3) := by decide +kernel
theorem dX12_readsKey_67 : decode cX12_readsKey 67 = .ok (.aload_n 0, 1) := by decide +kernel
theorem dX12_readsKey_68 : decode cX12_readsKey 68 = .ok (.getfield 162, 3) := by decide +kernel
theorem dX12_readsKey_71 : decode cX12_readsKey 71 = .ok (.ifCond .eq 53, 3) := by decide +kernel
theorem dX12_readsKey_74 : decode cX12_readsKey 74 = .ok (.aload_n 0, 1) := by decide +kernel
theorem dX12_readsKey_75 : decode cX12_readsKey 75 = .ok (.getfield 17, 3) := by decide +kernel
theorem dX12_readsKey_78 : decode cX12_readsKey 78 = .ok (.aload_n 0, 1) := by decide +kernel
theorem dX12_readsKey_79 : decode cX12_readsKey 79 = .ok (.getfield 142, 3) := by decide +kernel
theorem dX12_readsKey_82 : decode cX12_readsKey 82 = .ok (.iload_n 1, 1) := by decide +kernel
theorem dX12_readsKey_83 : decode cX12_readsKey 83 = .ok (.iastore, 1) := by decide +kernel
theorem dX12_readsKey_84 : decode cX12_readsKey 84 = .ok (.aload_n 0, 1) := by decide +kernel
theorem dX12_readsKey_85 : decode cX12_readsKey 85 = .ok (.getfield 20, 3) := by decide +kernel
theorem dX12_readsKey_88 : decode cX12_readsKey 88 = .ok (.aload_n 0, 1) := by decide +kernel
theorem dX12_readsKey_89 : decode cX12_readsKey 89 = .ok (.getfield 142, 3) := by decide +kernel
theorem dX12_readsKey_92 : decode cX12_readsKey 92 = .ok (.aload_n 0, 1) := by decide +kernel
theorem dX12_readsKey_93 : decode cX12_readsKey 93 = .ok (.getfield 54, 3) := by decide +kernel
theorem dX12_readsKey_96 : decode cX12_readsKey 96 = .ok (.iconst 0, 1) := by decide +kernel
theorem dX12_readsKey_97 : decode cX12_readsKey 97 = .ok (.iaload, 1) := by decide +kernel
theorem dX12_readsKey_98 : decode cX12_readsKey 98 = .ok (.iastore, 1) := by decide +kernel
theorem dX12_readsKey_99 : decode cX12_readsKey 99 = .ok (.aload_n 0, 1) := by decide +kernel
theorem dX12_readsKey_100 : decode cX12_readsKey 100 = .ok (.getfield 23, 3) := by decide +kernel
theorem dX12_readsKey_103 : decode cX12_readsKey 103 = .ok (.aload_n 0, 1) := by decide +kernel
theorem dX12_readsKey_104 : decode cX12_readsKey 104 = .ok (.getfield 142, 3) := by decide +kernel
theorem dX12_readsKey_107 : decode cX12_readsKey 107 = .ok (.aload_n 0, 1) := by decide +kernel
theorem dX12_readsKey_108 : decode cX12_readsKey 108 = .ok (.getfield 54, 3) := by decide +kernel
theorem dX12_readsKey_111 : decode cX12_readsKey 111 = .ok (.iconst 1, 1) := by decide +kernel
theorem dX12_readsKey_112 : decode cX12_readsKey 112 = .ok (.iaload, 1) := by decide +kernel
theorem dX12_readsKey_113 : decode cX12_readsKey 113 = .ok (.iastore, 1) := by decide +kernel
theorem dX12_readsKey_114 : decode cX12_readsKey 114 = .ok (.aload_n 0, 1) := by decide +kernel
theorem dX12_readsKey_115 : decode cX12_readsKey 115 = .ok (.dup, 1) := by decide +kernel
theorem dX12_readsKey_116 : decode cX12_readsKey 116 = .ok (.getfield 142, 3) := by decide +kernel
theorem dX12_readsKey_119 : decode cX12_readsKey 119 = .ok (.iconst 1, 1) := by decide +kernel
theorem dX12_readsKey_120 : decode cX12_readsKey 120 = .ok (.iadd, 1) := by decide +kernel
theorem dX12_readsKey_121 : decode cX12_readsKey 121 = .ok (.putfield 142, 3) := by decide +kernel
theorem dX12_readsKey_124 : decode cX12_readsKey 124 = .ok (.iconst 1, 1) := by decide +kernel
theorem dX12_readsKey_125 : decode cX12_readsKey 125 = .ok (.ireturn, 1) := by decide +kernel
set_option maxRecDepth 20000 in
theorem ggX12_readsLock_X12_nextToken : GoodIn wsX12_readsLock wsX12_nextToken := goodIn_r _ [13, 14, 15, 16, 17, 18, 19, 12, 20, 21, 22, 23, 24, 25, 26, 27, 28, 29, 30, 35, 36, 37, 38, 39, 40, 41, 42, 43, 44, 45, 46, 47, 48, 49, 50, 51, 52, 53, 54, 55, 56, 57, 58, 59, 60, 61, 62, 63, 64, 65, 66, 67, 68, 69, 70, 71, 72, 73, 74, 75, 76, 77, 78, 79] rfl (by decide +kernel)
set_option maxRecDepth 20000 in
theorem gX12_readsLock_X12_nextToken : GoodIn wsX12_readsLock (wsV RX12 139 RX12 yX12_nextToken wsX12_nextToken) := goodIn_app (goodIn_of _ (by decide +kernel)) ggX12_readsLock_X12_nextToken
set_option maxRecDepth 20000 in
theorem ggX12_readsLock_X12_number : GoodIn wsX12_readsLock wsX12_number := goodIn_r _ [34, 15, 16, 17, 14, 5, 26, 27, 12, 28, 29, 30, 23, 24, 25, 9, 10, 11, 13, 18, 19, 20, 21, 22, 35, 36, 37, 38, 39, 40, 41, 42, 43, 44, 45, 46, 47, 48, 49, 50, 51, 52, 53, 54, 55, 56, 57, 58, 59, 60, 61, 62, 63, 64, 65, 66, 67, 68, 69, 70, 71, 72, 73, 74, 75, 76, 77, 78, 79] rfl (by decide +kernel)
set_option maxRecDepth 20000 in
theorem gX12_readsLock_X12_number : GoodIn wsX12_readsLock (wsV RX12 158 RX12 yX12_number wsX12_number) := goodIn_app (goodIn_of _ (by decide +kernel)) ggX12_readsLock_X12_number
theorem dX12_readsLock_0 : decode cX12_readsLock 0 = .ok (.aload_n 0, 1) := by decide +kernel
theorem dX12_readsLock_1 : decode cX12_readsLock 1 = .ok (.getfield 166, 3) := by decide +kernel
theorem dX12_readsLock_4 : decode cX12_readsLock 4 = .ok (.bipush 7, 2) := by decide +kernel
theorem dX12_readsLock_6 : decode cX12_readsLock 6 = .ok (.if_icmp .ne 5, 3) := by decide +kernel
theorem dX12_readsLock_9 : decode cX12_readsLock 9 = .ok (.iconst 0, 1) := by decide +kernel
theorem dX12_readsLock_10 : decode cX12_readsLock 10 = .ok (.ireturn, 1) := by decide +kernel
theorem dX12_readsLock_11 : decode cX12_readsLock 11 = .ok (.aload_n 0, 1) := by decide +kernel
theorem dX12_readsLock_12 : decode cX12_readsLock 12 = .ok (.invokevirtual 139, 3) := by decide +kernel
theorem dX12_readsLock_15 : decode cX12_readsLock 15 = .ok (.aload_n 0, 1) := by decide +kernel
theorem dX12_readsLock_16 : decode cX12_readsLock 16 = .ok (.iconst 0, 1) := by decide +kernel
theorem dX12_readsLock_17 : decode cX12_readsLock 17 = .ok (.iconst 0, 1) := by decide +kernel
theorem dX12_readsLock_18 : decode cX12_readsLock 18 = .ok (.bipush 99, 2) := by decide +kernel
theorem dX12_readsLock_20 : decode cX12_readsLock 20 = .ok (.invokevirtual 158, 3) := by decide +kernel
theorem dX12_readsLock_23 : decode cX12_readsLock 23 = .ok (.ifCond .eq 36, 3) := by decide +kernel
theorem dX12_readsLock_26 : decode cX12_readsLock 26 = .ok (.aload_n 0, 1) := by decide +kernel
theorem dX12_readsLock_27 : decode cX12_readsLock 27 = .ok (.iconst 1, 1) := by decide +kernel
theorem dX12_readsLock_28 : decode cX12_readsLock 28 = .ok (.iconst 0, 1) := by decide +kernel
theorem dX12_readsLock_29 : decode cX12_readsLock 29 = .ok (.sipush 511, 3) := by decide +kernel
theorem dX12_readsLock_32 : decode cX12_readsLock 32 = .ok (.invokevirtual 158, 3) := by decide +kernel
theorem dX12_readsLock_35 : decode cX12_readsLock 35 = .ok (.ifCond .eq 24, 3) := by decide +kernel
theorem dX12_readsLock_38 : decode cX12_readsLock 38 = .ok (.aload_n 0, 1) := by decide +kernel
theorem dX12_readsLock_39 : decode cX12_readsLock 39 = .ok (.iconst 2, 1) := by decide +kernel
theorem dX12_readsLock_40 : decode cX12_readsLock 40 = .ok (.iconst 0, 1) := by decide +kernel
theorem dX12_readsLock_41 : decode cX12_readsLock 41 = .ok (.iconst 3, 1) := by decide +kernel
theorem dX12_readsLock_42 : decode cX12_readsLock 42 = .ok (.invokevirtual 158, 3) := by decide +kernel
theorem dX12_readsLock_45 : decode cX12_readsLock 45 = .ok (.ifCond .eq 14, 3) := by decide +kernel
theorem dX12_readsLock_48 : decode cX12_readsLock 48 = .ok (.aload_n 0, 1) := by decide +kernel
theorem dX12_readsLock_49 : decode cX12_readsLock 49 = .ok (.iconst 3, 1) := by decide +kernel
theorem dX12_readsLock_50 : decode cX12_readsLock 50 = .ok (.iconst 0, 1) := by decide +kernel
theorem dX12_readsLock_51 : decode cX12_readsLock 51 = .ok (.bipush 30, 2) := by decide +kernel
theorem dX12_readsLock_53 : decode cX12_readsLock 53 = .ok (.invokevirtual 158, 3) := by decide +kernel
theorem dX12_readsLock_56 : decode cX12_readsLock 56 = .ok (.ifCond .ne 5, 3) := by decide +kernel
theorem dX12_readsLock_59 : decode cX12_readsLock 59 = .ok (.iconst 0, 1) := by decide +kernel
theorem dX12_readsLock_60 : decode cX12_readsLock 60 = .ok (.ireturn, 1) := by decide +kernel
theorem dX12_readsLock_61 : decode cX12_readsLock 61 = .ok (.aload_n 0, 1) := by decide +kernel
theorem dX12_readsLock_62 : decode cX12_readsLock 62 = .ok (.dup, 1) := by decide +kernel
theorem dX12_readsLock_63 : decode cX12_readsLock 63 = .ok (.getfield 166, 3) := by decide +kernel
theorem dX12_readsLock_66 : decode cX12_readsLock 66 = .ok (.iconst 1, 1) := by decide +kernel
theorem dX12_readsLock_67 : decode cX12_readsLock 67 = .ok (.iadd, 1) := by decide +kernel
theorem dX12_readsLock_68 : decode cX12_readsLock 68 = .ok (.putfield 166, 3) := by decide +kernel
theorem dX12_readsLock_71 : decode cX12_readsLock 71 = .ok (.aload_n 0, 1) := by decide +kernel
theorem dX12_readsLock_72 : decode cX12_readsLock 72 = .ok (.getfield 162, 3) := by decide +kernel
theorem dX12_readsLock_75 : decode cX12_readsLock 75 = .ok (.ifCond .eq 73, 3) := by decide +kernel
theorem dX12_readsLock_78 : decode cX12_readsLock 78 = .ok (.aload_n 0, 1) := by decide +kernel
theorem dX12_readsLock_79 : decode cX12_readsLock 79 = .ok (.getfield 26, 3) := by decide +kernel
theorem dX12_readsLock_82 : decode cX12_readsLock 82 = .ok (.aload_n 0, 1) := by decide +kernel
theorem dX12_readsLock_83 : decode cX12_readsLock 83 = .ok (.getfield 145, 3) := by decide +kernel
theorem dX12_readsLock_86 : decode cX12_readsLock 86 = .ok (.aload_n 0, 1) := by decide +kernel
theorem dX12_readsLock_87 : decode cX12_readsLock 87 = .ok (.getfield 54, 3) := by decide +kernel
theorem dX12_readsLock_90 : decode cX12_readsLock 90 = .ok (.iconst 0, 1) := by decide +kernel
theorem dX12_readsLock_91 : decode cX12_readsLock 91 = .ok (.iaload, 1) := by decide +kernel
theorem dX12_readsLock_92 : decode cX12_readsLock 92 = .ok (.iastore, 1) := by decide +kernel
theorem dX12_readsLock_93 : decode cX12_readsLock 93 = .ok (.aload_n 0, 1) := by decide +kernel
theorem dX12_readsLock_94 : decode cX12_readsLock 94 = .ok (.getfield 29, 3) := by decide +kernel
theorem dX12_readsLock_97 : decode cX12_readsLock 97 = .ok (.aload_n 0, 1) := by decide +kernel
theorem dX12_readsLock_98 : decode cX12_readsLock 98 = .ok (.getfield 145, 3) := by decide +kernel
theorem dX12_readsLock_101 : decode cX12_readsLock 101 = .ok (.aload_n 0, 1) := by decide +kernel
theorem dX12_readsLock_102 : decode cX12_readsLock 102 = .ok (.getfield 54, 3) := by decide +kernel
theorem dX12_readsLock_105 : decode cX12_readsLock 105 = .ok (.iconst 1, 1) := by decide +kernel
theorem dX12_readsLock_106 : decode cX12_readsLock 106 = .ok (.iaload, 1) := by decide +kernel
theorem dX12_readsLock_107 : decode cX12_readsLock 107 = .ok (.iastore, 1) := by decide +kernel
theorem dX12_readsLock_108 : decode cX12_readsLock 108 = .ok (.aload_n 0, 1) := by decide +kernel
theorem dX12_readsLock_109 : decode cX12_readsLock 109 = .ok (.getfield 32, 3) := by decide +kernel
theorem dX12_readsLock_112 : decode cX12_readsLock 112 = .ok (.aload_n 0, 1) := by decide +kernel
theorem dX12_readsLock_113 : decode cX12_readsLock 113 = .ok (.getfield 145, 3) := by decide +kernel
theorem dX12_readsLock_116 : decode cX12_readsLock 116 = .ok (.aload_n 0, 1) := by decide +kernel
theorem dX12_readsLock_117 : decode cX12_readsLock 117 = .ok (.getfield 54, 3) := by decide +kernel
theorem dX12_readsLock_120 : decode cX12_readsLock 120 = .ok (.iconst 2, 1) := by decide +kernel
theorem dX12_readsLock_121 : decode cX12_readsLock 121 = .ok (.iaload, 1) := by decide +kernel
theorem dX12_readsLock_122 : decode cX12_readsLock 122 = .ok (.iastore, 1) := by decide +kernel
theorem dX12_readsLock_123 : decode cX12_readsLock 123 = .ok (.aload_n 0, 1) := by decide +kernel
theorem dX12_readsLock_124 : decode cX12_readsLock 124 = .ok (.getfield 35, 3) := by decide +kernel
theorem dX12_readsLock_127 : decode cX12_readsLock 127 = .ok (.aload_n 0, 1) := by decide +kernel
theorem dX12_readsLock_128 : decode cX12_readsLock 128 = .ok (.getfield 145, 3) := by decide +kernel
theorem dX12_readsLock_131 : decode cX12_readsLock 131 = .ok (.aload_n 0, 1) := by decide +kernel
theorem dX12_readsLock_132 : decode cX12_readsLock 132 = .ok (.getfield 54, 3) := by decide +kernel
theorem dX12_readsLock_135 : decode cX12_readsLock 135 = .ok (.iconst 3, 1) := by decide +kernel
theorem dX12_readsLock_136 : decode cX12_readsLock 136 = .ok (.iaload, 1) := by decide +kernel
theorem dX12_readsLock_137 : decode cX12_readsLock 137 = .ok (.iastore, 1) := by decide +kernel
theorem dX12_readsLock_138 : decode cX12_readsLock 138 = .ok (.aload_n 0, 1) := by decide +kernel
theorem dX12_readsLock_139 : decode cX12_readsLock 139 = .ok (.dup, 1) := by decide +kernel
theorem dX12_readsLock_140 : decode cX12_readsLock 140 = .ok (.getfield 145, 3) := by decide +kernel
theorem dX12_readsLock_143 : decode cX12_readsLock 143 = .ok (.iconst 1, 1) := by decide +kernel
theorem dX12_readsLock_144 : decode cX12_readsLock 144 = .ok (.iadd, 1) := by decide +kernel
theorem dX12_readsLock_145 : decode cX12_readsLock 145 = .ok (.putfield 145, 3) := by decide +kernel
theorem dX12_readsLock_148 : decode cX12_readsLock 148 = .ok (.iconst 1, 1) := by decide +kernel
theorem dX12_readsLock_149 : decode cX12_readsLock 149 = .ok (.ireturn, 1) := by decide +kernel
set_option maxRecDepth 20000 in
theorem ggX12_readsWalker_X12_nextToken : GoodIn wsX12_readsWalker wsX12_nextToken := goodIn_r _ [10, 11, 12, 13, 14, 15, 16, 9, 17, 18, 19, 20, 21, 22, 23, 24, 25, 26, 27, 32, 33, 34, 35, 36, 37, 38, 39, 40, 41, 42, 43, 44, 45, 46, 47, 48, 49, 50, 51, 52, 53, 54, 55, 56, 57, 58, 59, 60, 61, 62, 63, 64, 65, 66, 67, 68, 69, 70, 71, 72, 73, 74, 75, 76] rfl (by decide +kernel)
set_option maxRecDepth 20000 in
theorem gX12_readsWalker_X12_nextToken : GoodIn wsX12_readsWalker (wsV RX12 139 RX12 yX12_nextToken wsX12_nextToken) := goodIn_app (goodIn_of _ (by decide +kernel)) ggX12_readsWalker_X12_nextToken
set_option maxRecDepth 20000 in
theorem ggX12_readsWalker_X12_number : GoodIn wsX12_readsWalker wsX12_number := goodIn_r _ [31, 12, 13, 14, 11, 5, 23, 24, 9, 25, 26, 27, 20, 21, 22, 6, 7, 8, 10, 15, 16, 17, 18, 19, 32, 33, 34, 35, 36, 37, 38, 39, 40, 41, 42, 43, 44, 45, 46, 47, 48, 49, 50, 51, 52, 53, 54, 55, 56, 57, 58, 59, 60, 61, 62, 63, 64, 65, 66, 67, 68, 69, 70, 71, 72, 73, 74, 75, 76] rfl (by decide +kernel)
set_option maxRecDepth 20000 in
theorem gX12_readsWalker_X12_number : GoodIn wsX12_readsWalker (wsV RX12 158 RX12 yX12_number wsX12_number) := goodIn_app (goodIn_of _ (by decide +kernel)) ggX12_readsWalker_X12_number
theorem dX12_readsWalker_0 : decode cX12_readsWalker 0 = .ok (.aload_n 0, 1) := by decide +kernel
theorem dX12_readsWalker_1 : decode cX12_readsWalker 1 = .ok (.getfield 169, 3) := by decide +kernel
theorem dX12_readsWalker_4 : decode cX12_readsWalker 4 = .ok (.iconst 3, 1) := by decide +kernel
theorem dX12_readsWalker_5 : decode cX12_readsWalker 5 = .ok (.if_icmp .ne 5, 3) := by decide +kernel
theorem dX12_readsWalker_8 : decode cX12_readsWalker 8 = .ok (.iconst 0, 1) := by decide +kernel
theorem dX12_readsWalker_9 : decode cX12_readsWalker 9 = .ok (.ireturn, 1) := by decide +kernel
theorem dX12_readsWalker_10 : decode cX12_readsWalker 10 = .ok (.aload_n 0, 1) := by decide +kernel
theorem dX12_readsWalker_11 : decode cX12_readsWalker 11 = .ok (.invokevirtual 139, 3) := by decide +kernel
theorem dX12_readsWalker_14 : decode cX12_readsWalker 14 = .ok (.aload_n 0, 1) := by decide +kernel
theorem dX12_readsWalker_15 : decode cX12_readsWalker 15 = .ok (.iconst 0, 1) := by decide +kernel
theorem dX12_readsWalker_16 : decode cX12_readsWalker 16 = .ok (.iconst 0, 1) := by decide +kernel
theorem dX12_readsWalker_17 : decode cX12_readsWalker 17 = .ok (.bipush 99, 2) := by decide +kernel
theorem dX12_readsWalker_19 : decode cX12_readsWalker 19 = .ok (.invokevirtual 158, 3) := by decide +kernel
theorem dX12_readsWalker_22 : decode cX12_readsWalker 22 = .ok (.ifCond .ne 5, 3) := by decide +kernel
theorem dX12_readsWalker_25 : decode cX12_readsWalker 25 = .ok (.iconst 0, 1) := by decide +kernel
theorem dX12_readsWalker_26 : decode cX12_readsWalker 26 = .ok (.ireturn, 1) := by decide +kernel
theorem dX12_readsWalker_27 : decode cX12_readsWalker 27 = .ok (.aload_n 0, 1) := by decide +kernel
theorem dX12_readsWalker_28 : decode cX12_readsWalker 28 = .ok (.dup, 1) := by decide +kernel
theorem dX12_readsWalker_29 : decode cX12_readsWalker 29 = .ok (.getfield 169, 3) := by decide +kernel
theorem dX12_readsWalker_32 : decode cX12_readsWalker 32 = .ok (.iconst 1, 1) := by decide +kernel
theorem dX12_readsWalker_33 : decode cX12_readsWalker 33 = .ok (.iadd, 1) := by decide +kernel
theorem dX12_readsWalker_34 : decode cX12_readsWalker 34 = .ok (.putfield 169, 3) := by decide +kernel
theorem dX12_readsWalker_37 : decode cX12_readsWalker 37 = .ok (.aload_n 0, 1) := by decide +kernel
theorem dX12_readsWalker_38 : decode cX12_readsWalker 38 = .ok (.getfield 162, 3) := by decide +kernel
theorem dX12_readsWalker_41 : decode cX12_readsWalker 41 = .ok (.ifCond .eq 28, 3) := by decide +kernel
theorem dX12_readsWalker_44 : decode cX12_readsWalker 44 = .ok (.aload_n 0, 1) := by decide +kernel
theorem dX12_readsWalker_45 : decode cX12_readsWalker 45 = .ok (.getfield 38, 3) := by decide +kernel
theorem dX12_readsWalker_48 : decode cX12_readsWalker 48 = .ok (.aload_n 0, 1) := by decide +kernel
theorem dX12_readsWalker_49 : decode cX12_readsWalker 49 = .ok (.getfield 148, 3) := by decide +kernel
theorem dX12_readsWalker_52 : decode cX12_readsWalker 52 = .ok (.aload_n 0, 1) := by decide +kernel
theorem dX12_readsWalker_53 : decode cX12_readsWalker 53 = .ok (.getfield 54, 3) := by decide +kernel
theorem dX12_readsWalker_56 : decode cX12_readsWalker 56 = .ok (.iconst 0, 1) := by decide +kernel
theorem dX12_readsWalker_57 : decode cX12_readsWalker 57 = .ok (.iaload, 1) := by decide +kernel
theorem dX12_readsWalker_58 : decode cX12_readsWalker 58 = .ok (.iastore, 1) := by decide +kernel
theorem dX12_readsWalker_59 : decode cX12_readsWalker 59 = .ok (.aload_n 0, 1) := by decide +kernel
theorem dX12_readsWalker_60 : decode cX12_readsWalker 60 = .ok (.dup, 1) := by decide +kernel
theorem dX12_readsWalker_61 : decode cX12_readsWalker 61 = .ok (.getfield 148, 3) := by decide +kernel
theorem dX12_readsWalker_64 : decode cX12_readsWalker 64 = .ok (.iconst 1, 1) := by decide +kernel
theorem dX12_readsWalker_65 : decode cX12_readsWalker 65 = .ok (.iadd, 1) := by decide +kernel
theorem dX12_readsWalker_66 : decode cX12_readsWalker 66 = .ok (.putfield 148, 3) := by decide +kernel
theorem dX12_readsWalker_69 : decode cX12_readsWalker 69 = .ok (.iconst 1, 1) := by decide +kernel
theorem dX12_readsWalker_70 : decode cX12_readsWalker 70 = .ok (.ireturn, 1) := by decide +kernel
set_option maxRecDepth 20000 in
theorem ggX12_readsDark_X12_nextToken : GoodIn wsX12_readsDark wsX12_nextToken := goodIn_r _ [8, 9, 10, 11, 12, 13, 14, 7, 15, 16, 17, 18, 19, 20, 21, 22, 23, 24, 25, 30, 31, 32, 33, 34, 35, 36, 37, 38, 39, 40, 41, 42, 43, 44, 45, 46, 47, 48, 49, 50, 51, 52, 53, 54, 55, 56, 57, 58, 59, 60, 61, 62, 63, 64, 65, 66, 67, 68, 69, 70, 71, 72, 73, 74] rfl (by decide +kernel)
set_option maxRecDepth 20000 in
theorem gX12_readsDark_X12_nextToken : GoodIn wsX12_readsDark (wsV RX12 139 RX12 yX12_nextToken wsX12_nextToken) := goodIn_app (goodIn_of _ (by decide +kernel)) ggX12_readsDark_X12_nextToken
set_option maxRecDepth 20000 in
theorem ggX12_readsDark_X12_number : GoodIn wsX12_readsDark wsX12_number := goodIn_r _ [29, 10, 11, 12, 9, 2, 21, 22, 7, 23, 24, 25, 18, 19, 20, 4, 5, 6, 8, 13, 14, 15, 16, 17, 30, 31, 32, 33, 34, 35, 36, 37, 38, 39, 40, 41, 42, 43, 44, 45, 46, 47, 48, 49, 50, 51, 52, 53, 54, 55, 56, 57, 58, 59, 60, 61, 62, 63, 64, 65, 66, 67, 68, 69, 70, 71, 72, 73, 74] rfl (by decide +kernel)
set_option maxRecDepth 20000 in
theorem gX12_readsDark_X12_number : GoodIn wsX12_readsDark (wsV RX12 158 RX12 yX12_number wsX12_number) := goodIn_app (goodIn_of _ (by decide +kernel)) ggX12_readsDark_X12_number
theorem dX12_readsDark_0 : decode cX12_readsDark 0 = .ok (.aload_n 0, 1) := by decide +kernel
theorem dX12_readsDark_1 : decode cX12_readsDark 1 = .ok (.invokevirtual 139, 3) := by decide +kernel
theorem dX12_readsDark_4 : decode cX12_readsDark 4 = .ok (.aload_n 0, 1) := by decide +kernel
theorem dX12_readsDark_5 : decode cX12_readsDark 5 = .ok (.iconst 0, 1) := by decide +kernel
theorem dX12_readsDark_6 : decode cX12_readsDark 6 = .ok (.bipush 10, 2) := by decide +kernel
theorem dX12_readsDark_8 : decode cX12_readsDark 8 = .ok (.bipush 99, 2) := by decide +kernel
theorem dX12_readsDark_10 : decode cX12_readsDark 10 = .ok (.invokevirtual 158, 3) := by decide +kernel
theorem dX12_readsDark_13 : decode cX12_readsDark 13 = .ok (.ifCond .ne 5, 3) := by decide +kernel
theorem dX12_readsDark_16 : decode cX12_readsDark 16 = .ok (.iconst 0, 1) := by decide +kernel
theorem dX12_readsDark_17 : decode cX12_readsDark 17 = .ok (.ireturn, 1) := by decide +kernel
theorem dX12_readsDark_18 : decode cX12_readsDark 18 = .ok (.aload_n 0, 1) := by decide +kernel
theorem dX12_readsDark_19 : decode cX12_readsDark 19 = .ok (.aload_n 0, 1) := by decide +kernel
theorem dX12_readsDark_20 : decode cX12_readsDark 20 = .ok (.getfield 162, 3) := by decide +kernel
theorem dX12_readsDark_23 : decode cX12_readsDark 23 = .ok (.ifCond .eq 12, 3) := by decide +kernel
theorem dX12_readsDark_26 : decode cX12_readsDark 26 = .ok (.aload_n 0, 1) := by decide +kernel
theorem dX12_readsDark_27 : decode cX12_readsDark 27 = .ok (.getfield 54, 3) := by decide +kernel
theorem dX12_readsDark_30 : decode cX12_readsDark 30 = .ok (.iconst 0, 1) := by decide +kernel
theorem dX12_readsDark_31 : decode cX12_readsDark 31 = .ok (.iaload, 1) := by decide +kernel
theorem dX12_readsDark_32 : decode cX12_readsDark 32 = .ok (.goto 7, 3) := by decide +kernel
theorem dX12_readsDark_35 : decode cX12_readsDark 35 = .ok (.aload_n 0, 1) := by decide +kernel
theorem dX12_readsDark_36 : decode cX12_readsDark 36 = .ok (.getfield 41, 3) := by decide +kernel
theorem dX12_readsDark_39 : decode cX12_readsDark 39 = .ok (.putfield 41, 3) := by decide +kernel
theorem dX12_readsDark_42 : decode cX12_readsDark 42 = .ok (.iconst 1, 1) := by decide +kernel
theorem dX12_readsDark_43 : decode cX12_readsDark 43 = .ok (.ireturn, 1) := by decide +kernel
set_option maxRecDepth 20000 in
theorem ggX12_readsLand_X12_nextToken : GoodIn wsX12_readsLand wsX12_nextToken := goodIn_r _ [9, 10, 11, 12, 13, 14, 15, 8, 16, 17, 18, 19, 20, 21, 22, 23, 24, 25, 26, 35, 36, 37, 38, 39, 40, 41, 42, 43, 44, 45, 46, 47, 48, 49, 50, 51, 52, 53, 54, 55, 56, 57, 58, 59, 60, 61, 62, 63, 64, 65, 66, 67, 68, 69, 70, 71, 72, 73, 74, 75, 76, 77, 78, 79] rfl (by decide +kernel)
set_option maxRecDepth 20000 in
theorem gX12_readsLand_X12_nextToken : GoodIn wsX12_readsLand (wsV RX12 139 RX12 yX12_nextToken wsX12_nextToken) := goodIn_app (goodIn_of _ (by decide +kernel)) ggX12_readsLand_X12_nextToken
set_option maxRecDepth 20000 in
theorem ggX12_readsLand_X12_empty : GoodIn wsX12_readsLand wsX12_empty := goodIn_r _ [30, 31, 32, 33, 34, 35, 36, 37, 38, 39, 40, 41, 42, 43, 44, 45, 46, 47, 48, 49, 50, 51, 52, 53, 54, 55, 56, 57, 58, 59, 60, 61, 62, 63, 64, 65, 66, 67, 68, 69, 70, 71, 72, 73, 74, 75, 76, 77, 78, 79] rfl (by decide +kernel)
set_option maxRecDepth 20000 in
theorem gX12_readsLand_X12_empty : GoodIn wsX12_readsLand (wsV RX12 172 RX12 yX12_empty wsX12_empty) := goodIn_app (goodIn_of _ (by decide +kernel)) ggX12_readsLand_X12_empty
theorem dX12_readsLand_0 : decode cX12_readsLand 0 = .ok (.aload_n 0, 1) := by decide +kernel
theorem dX12_readsLand_1 : decode cX12_readsLand 1 = .ok (.invokevirtual 139, 3) := by decide +kernel
theorem dX12_readsLand_4 : decode cX12_readsLand 4 = .ok (.aload_n 0, 1) := by decide +kernel
theorem dX12_readsLand_5 : decode cX12_readsLand 5 = .ok (.iconst 0, 1) := by decide +kernel
theorem dX12_readsLand_6 : decode cX12_readsLand 6 = .ok (.putfield 155, 3) := by decide +kernel
theorem dX12_readsLand_9 : decode cX12_readsLand 9 = .ok (.aload_n 0, 1) := by decide +kernel
theorem dX12_readsLand_10 : decode cX12_readsLand 10 = .ok (.iconst 0, 1) := by decide +kernel
theorem dX12_readsLand_11 : decode cX12_readsLand 11 = .ok (.putfield 166, 3) := by decide +kernel
theorem dX12_readsLand_14 : decode cX12_readsLand 14 = .ok (.aload_n 0, 1) := by decide +kernel
theorem dX12_readsLand_15 : decode cX12_readsLand 15 = .ok (.iconst 0, 1) := by decide +kernel
theorem dX12_readsLand_16 : decode cX12_readsLand 16 = .ok (.putfield 169, 3) := by decide +kernel
theorem dX12_readsLand_19 : decode cX12_readsLand 19 = .ok (.aload_n 0, 1) := by decide +kernel
theorem dX12_readsLand_20 : decode cX12_readsLand 20 = .ok (.getfield 162, 3) := by decide +kernel
theorem dX12_readsLand_23 : decode cX12_readsLand 23 = .ok (.ifCond .eq 7, 3) := by decide +kernel
theorem dX12_readsLand_26 : decode cX12_readsLand 26 = .ok (.aload_n 0, 1) := by decide +kernel
theorem dX12_readsLand_27 : decode cX12_readsLand 27 = .ok (.invokevirtual 172, 3) := by decide +kernel
theorem dX12_readsLand_30 : decode cX12_readsLand 30 = .ok (.iconst 1, 1) := by decide +kernel
theorem dX12_readsLand_31 : decode cX12_readsLand 31 = .ok (.ireturn, 1) := by decide +kernel
set_option maxRecDepth 20000 in
theorem ggX12_readsClause_X12_kindHere : GoodIn wsX12_readsClause wsX12_kindHere := goodIn_r _ [9, 10, 11, 12, 13, 14, 15, 16, 8, 17, 18, 19, 20, 84, 85, 86, 87, 88, 89, 90, 91, 92, 93, 94, 95, 96, 97, 98, 99, 100, 101, 102, 103, 104, 105, 106, 107, 108, 109, 110, 111, 112, 113, 114, 115, 116, 117, 118, 119, 120, 121, 122, 123, 124, 125, 126, 127, 128] rfl (by decide +kernel)
set_option maxRecDepth 20000 in
theorem gX12_readsClause_X12_kindHere : GoodIn wsX12_readsClause (wsV RX12 175 RX12 yX12_kindHere wsX12_kindHere) := goodIn_app (goodIn_of _ (by decide +kernel)) ggX12_readsClause_X12_kindHere
set_option maxRecDepth 20000 in
theorem ggX12_readsClause_X12_readsKey : GoodIn wsX12_readsClause wsX12_readsKey := goodIn_r _ [24, 25, 26, 27, 28, 29, 30, 31, 32, 33, 34, 8, 35, 18, 19, 36, 20, 37, 38, 39, 40, 41, 42, 43, 44, 45, 46, 47, 48, 49, 50, 51, 52, 53, 84, 85, 86, 87, 88, 89, 90, 91, 92, 93, 94, 95, 96, 97, 98, 99, 100, 101, 102, 103, 104, 105, 106, 107, 108, 109, 110, 111, 112, 113, 114, 115, 116, 117, 118, 119, 120, 121, 122, 123, 124, 125, 126, 127, 128] rfl (by decide +kernel)
set_option maxRecDepth 20000 in
theorem gX12_readsClause_X12_readsKey : GoodIn wsX12_readsClause (wsV RX12 179 RX12 yX12_readsKey wsX12_readsKey) := goodIn_app (goodIn_of _ (by decide +kernel)) ggX12_readsClause_X12_readsKey
set_option maxRecDepth 20000 in
theorem ggX12_readsClause_X12_isWord : GoodIn wsX12_readsClause wsX12_isWord := goodIn_r _ [17, 18, 19, 20, 84, 85, 86, 87, 88, 89, 90, 91, 92, 93, 94, 95, 96, 97, 98, 99, 100, 101, 102, 103, 104, 105, 106, 107, 108, 109, 110, 111, 112, 113, 114, 115, 116, 117, 118, 119, 120, 121, 122, 123, 124, 125, 126, 127, 128] rfl (by decide +kernel)
set_option maxRecDepth 20000 in
theorem gX12_readsClause_X12_isWord : GoodIn wsX12_readsClause (wsV RX12 151 RX12 yX12_isWord wsX12_isWord) := goodIn_app (goodIn_of _ (by decide +kernel)) ggX12_readsClause_X12_isWord
set_option maxRecDepth 20000 in
theorem ggX12_readsClause_X12_readsLand : GoodIn wsX12_readsClause wsX12_readsLand := goodIn_r _ [57, 25, 58, 59, 27, 32, 33, 34, 8, 35, 18, 19, 36, 20, 37, 38, 39, 40, 41, 42, 43, 44, 45, 46, 47, 48, 49, 60, 61, 62, 63, 29, 64, 65, 66, 84, 85, 86, 87, 88, 89, 90, 91, 92, 93, 94, 95, 96, 97, 98, 99, 100, 101, 102, 103, 104, 105, 106, 107, 108, 109, 110, 111, 112, 113, 114, 115, 116, 117, 118, 119, 120, 121, 122, 123, 124, 125, 126, 127, 128] rfl (by decide +kernel)
set_option maxRecDepth 20000 in
theorem gX12_readsClause_X12_readsLand : GoodIn wsX12_readsClause (wsV RX12 182 RX12 yX12_readsLand wsX12_readsLand) := goodIn_app (goodIn_of _ (by decide +kernel)) ggX12_readsClause_X12_readsLand
set_option maxRecDepth 20000 in
theorem ggX12_readsClause_X12_readsLock : GoodIn wsX12_readsClause wsX12_readsLock := goodIn_r _ [70, 58, 27, 71, 64, 26, 72, 73, 74, 32, 33, 34, 8, 35, 18, 19, 36, 20, 37, 38, 39, 40, 41, 42, 43, 44, 45, 46, 47, 48, 49, 50, 51, 52, 53, 84, 85, 86, 87, 88, 89, 90, 91, 92, 93, 94, 95, 96, 97, 98, 99, 100, 101, 102, 103, 104, 105, 106, 107, 108, 109, 110, 111, 112, 113, 114, 115, 116, 117, 118, 119, 120, 121, 122, 123, 124, 125, 126, 127, 128] rfl (by decide +kernel)
set_option maxRecDepth 20000 in
theorem gX12_readsClause_X12_readsLock : GoodIn wsX12_readsClause (wsV RX12 186 RX12 yX12_readsLock wsX12_readsLock) := goodIn_app (goodIn_of _ (by decide +kernel)) ggX12_readsClause_X12_readsLock
set_option maxRecDepth 20000 in
theorem ggX12_readsClause_X12_readsWalker : GoodIn wsX12_readsClause wsX12_readsWalker := goodIn_r _ [78, 59, 27, 79, 65, 26, 32, 33, 34, 8, 35, 18, 19, 36, 20, 37, 38, 39, 40, 41, 42, 43, 44, 45, 46, 47, 48, 49, 50, 51, 52, 53, 84, 85, 86, 87, 88, 89, 90, 91, 92, 93, 94, 95, 96, 97, 98, 99, 100, 101, 102, 103, 104, 105, 106, 107, 108, 109, 110, 111, 112, 113, 114, 115, 116, 117, 118, 119, 120, 121, 122, 123, 124, 125, 126, 127, 128] rfl (by decide +kernel)
set_option maxRecDepth 20000 in
theorem gX12_readsClause_X12_readsWalker : GoodIn wsX12_readsClause (wsV RX12 189 RX12 yX12_readsWalker wsX12_readsWalker) := goodIn_app (goodIn_of _ (by decide +kernel)) ggX12_readsClause_X12_readsWalker
set_option maxRecDepth 20000 in
theorem ggX12_readsClause_X12_readsDark : GoodIn wsX12_readsClause wsX12_readsDark := goodIn_r _ [83, 27, 26, 66, 32, 33, 34, 8, 35, 18, 19, 36, 20, 37, 38, 39, 40, 41, 42, 43, 44, 45, 46, 47, 48, 49, 50, 51, 52, 53, 84, 85, 86, 87, 88, 89, 90, 91, 92, 93, 94, 95, 96, 97, 98, 99, 100, 101, 102, 103, 104, 105, 106, 107, 108, 109, 110, 111, 112, 113, 114, 115, 116, 117, 118, 119, 120, 121, 122, 123, 124, 125, 126, 127, 128] rfl (by decide +kernel)
set_option maxRecDepth 20000 in
theorem gX12_readsClause_X12_readsDark : GoodIn wsX12_readsClause (wsV RX12 192 RX12 yX12_readsDark wsX12_readsDark) := goodIn_app (goodIn_of _ (by decide +kernel)) ggX12_readsClause_X12_readsDark
theorem dX12_readsClause_0 : decode cX12_readsClause 0 = .ok (.aload_n 0, 1) := by decide +kernel
theorem dX12_readsClause_1 : decode cX12_readsClause 1 = .ok (.invokevirtual 175, 3) := by decide +kernel
theorem dX12_readsClause_4 : decode cX12_readsClause 4 = .ok (.iconst (-1), 1) := by decide +kernel
theorem dX12_readsClause_5 : decode cX12_readsClause 5 = .ok (.if_icmp .eq 12, 3) := by decide +kernel
theorem dX12_readsClause_8 : decode cX12_readsClause 8 = .ok (.aload_n 0, 1) := by decide +kernel
theorem dX12_readsClause_9 : decode cX12_readsClause 9 = .ok (.aload_n 0, 1) := by decide +kernel
theorem dX12_readsClause_10 : decode cX12_readsClause 10 = .ok (.invokevirtual 175, 3) := by decide +kernel
theorem dX12_readsClause_13 : decode cX12_readsClause 13 = .ok (.invokevirtual 179, 3) := by decide +kernel
theorem dX12_readsClause_16 : decode cX12_readsClause 16 = .ok (.ireturn, 1) := by decide +kernel
theorem dX12_readsClause_17 : decode cX12_readsClause 17 = .ok (.aload_n 0, 1) := by decide +kernel
theorem dX12_readsClause_18 : decode cX12_readsClause 18 = .ok (.aload_n 0, 1) := by decide +kernel
theorem dX12_readsClause_19 : decode cX12_readsClause 19 = .ok (.getfield 69, 3) := by decide +kernel
theorem dX12_readsClause_22 : decode cX12_readsClause 22 = .ok (.invokevirtual 151, 3) := by decide +kernel
theorem dX12_readsClause_25 : decode cX12_readsClause 25 = .ok (.ifCond .eq 10, 3) := by decide +kernel
theorem dX12_readsClause_28 : decode cX12_readsClause 28 = .ok (.aload_n 0, 1) := by decide +kernel
theorem dX12_readsClause_29 : decode cX12_readsClause 29 = .ok (.invokevirtual 182, 3) := by decide +kernel
theorem dX12_readsClause_32 : decode cX12_readsClause 32 = .ok (.goto 62, 3) := by decide +kernel
theorem dX12_readsClause_35 : decode cX12_readsClause 35 = .ok (.aload_n 0, 1) := by decide +kernel
theorem dX12_readsClause_36 : decode cX12_readsClause 36 = .ok (.aload_n 0, 1) := by decide +kernel
theorem dX12_readsClause_37 : decode cX12_readsClause 37 = .ok (.getfield 72, 3) := by decide +kernel
theorem dX12_readsClause_40 : decode cX12_readsClause 40 = .ok (.invokevirtual 151, 3) := by decide +kernel
theorem dX12_readsClause_43 : decode cX12_readsClause 43 = .ok (.ifCond .eq 10, 3) := by decide +kernel
theorem dX12_readsClause_46 : decode cX12_readsClause 46 = .ok (.aload_n 0, 1) := by decide +kernel
theorem dX12_readsClause_47 : decode cX12_readsClause 47 = .ok (.invokevirtual 186, 3) := by decide +kernel
theorem dX12_readsClause_50 : decode cX12_readsClause 50 = .ok (.goto 44, 3) := by decide +kernel
theorem dX12_readsClause_53 : decode cX12_readsClause 53 = .ok (.aload_n 0, 1) := by decide +kernel
theorem dX12_readsClause_54 : decode cX12_readsClause 54 = .ok (.aload_n 0, 1) := by decide +kernel
theorem dX12_readsClause_55 : decode cX12_readsClause 55 = .ok (.getfield 75, 3) := by decide +kernel
theorem dX12_readsClause_58 : decode cX12_readsClause 58 = .ok (.invokevirtual 151, 3) := by decide +kernel
theorem dX12_readsClause_61 : decode cX12_readsClause 61 = .ok (.ifCond .eq 10, 3) := by decide +kernel
theorem dX12_readsClause_64 : decode cX12_readsClause 64 = .ok (.aload_n 0, 1) := by decide +kernel
theorem dX12_readsClause_65 : decode cX12_readsClause 65 = .ok (.invokevirtual 189, 3) := by decide +kernel
theorem dX12_readsClause_68 : decode cX12_readsClause 68 = .ok (.goto 26, 3) := by decide +kernel
theorem dX12_readsClause_71 : decode cX12_readsClause 71 = .ok (.aload_n 0, 1) := by decide +kernel
theorem dX12_readsClause_72 : decode cX12_readsClause 72 = .ok (.aload_n 0, 1) := by decide +kernel
theorem dX12_readsClause_73 : decode cX12_readsClause 73 = .ok (.getfield 78, 3) := by decide +kernel
theorem dX12_readsClause_76 : decode cX12_readsClause 76 = .ok (.invokevirtual 151, 3) := by decide +kernel
theorem dX12_readsClause_79 : decode cX12_readsClause 79 = .ok (.ifCond .eq 14, 3) := by decide +kernel
theorem dX12_readsClause_82 : decode cX12_readsClause 82 = .ok (.aload_n 0, 1) := by decide +kernel
theorem dX12_readsClause_83 : decode cX12_readsClause 83 = .ok (.invokevirtual 192, 3) := by decide +kernel
theorem dX12_readsClause_86 : decode cX12_readsClause 86 = .ok (.ifCond .eq 7, 3) := by decide +kernel
theorem dX12_readsClause_89 : decode cX12_readsClause 89 = .ok (.iconst 1, 1) := by decide +kernel
theorem dX12_readsClause_90 : decode cX12_readsClause 90 = .ok (.goto 4, 3) := by decide +kernel
theorem dX12_readsClause_93 : decode cX12_readsClause 93 = .ok (.iconst 0, 1) := by decide +kernel
theorem dX12_readsClause_94 : decode cX12_readsClause 94 = .ok (.ireturn, 1) := by decide +kernel
set_option maxRecDepth 20000 in
theorem ggX12_reads_X12_nextToken : GoodIn wsX12_reads wsX12_nextToken := goodIn_r _ [17, 2, 10, 11, 12, 18, 19, 16, 20, 21, 22, 23, 24, 25, 26, 27, 28, 29, 30, 89, 90, 91, 92, 93, 94, 95, 96, 97, 98, 99, 100, 101, 102, 103, 104, 105, 106, 107, 108, 109, 110, 111, 112, 113, 114, 115, 116, 117, 118, 119, 120, 121, 122, 123, 124, 125, 126, 127, 128, 129, 130, 131, 132, 133] rfl (by decide +kernel)
set_option maxRecDepth 20000 in
theorem gX12_reads_X12_nextToken : GoodIn wsX12_reads (wsV RX12 139 RX12 yX12_nextToken wsX12_nextToken) := goodIn_app (goodIn_of _ (by decide +kernel)) ggX12_reads_X12_nextToken
set_option maxRecDepth 20000 in
theorem ggX12_reads_X12_readsClause : GoodIn wsX12_reads wsX12_readsClause := goodIn_r _ [34, 35, 36, 37, 38, 39, 40, 41, 16, 42, 43, 44, 45, 46, 47, 48, 49, 50, 2, 10, 12, 51, 52, 53, 54, 5, 55, 1, 56, 4, 57, 58, 13, 14, 15, 17, 11, 18, 19, 20, 21, 22, 23, 24, 25, 26, 27, 28, 29, 30, 59, 60, 61, 62, 63, 64, 65, 66, 7, 9, 67, 68, 69, 70, 6, 8, 71, 72, 73, 74, 75, 76, 77, 78, 79, 80, 81, 82, 83, 84, 85, 86, 87, 88, 89, 90, 91, 92, 93, 94, 95, 96, 97, 98, 99, 100, 101, 102, 103, 104, 105, 106, 107, 108, 109, 110, 111, 112, 113, 114, 115, 116, 117, 118, 119, 120, 121, 122, 123, 124, 125, 126, 127, 128, 129, 130, 131, 132, 133] rfl (by decide +kernel)
set_option maxRecDepth 20000 in
theorem gX12_reads_X12_readsClause : GoodIn wsX12_reads (wsV RX12 198 RX12 yX12_readsClause wsX12_readsClause) := goodIn_app (goodIn_of _ (by decide +kernel)) ggX12_reads_X12_readsClause
theorem dX12_reads_0 : decode cX12_reads 0 = .ok (.aload_n 0, 1) := by decide +kernel
theorem dX12_reads_1 : decode cX12_reads 1 = .ok (.iload_n 1, 1) := by decide +kernel
theorem dX12_reads_2 : decode cX12_reads 2 = .ok (.putfield 162, 3) := by decide +kernel
theorem dX12_reads_5 : decode cX12_reads 5 = .ok (.aload_n 0, 1) := by decide +kernel
theorem dX12_reads_6 : decode cX12_reads 6 = .ok (.iconst 0, 1) := by decide +kernel
theorem dX12_reads_7 : decode cX12_reads 7 = .ok (.putfield 126, 3) := by decide +kernel
theorem dX12_reads_10 : decode cX12_reads 10 = .ok (.aload_n 0, 1) := by decide +kernel
theorem dX12_reads_11 : decode cX12_reads 11 = .ok (.iconst 0, 1) := by decide +kernel
theorem dX12_reads_12 : decode cX12_reads 12 = .ok (.putfield 195, 3) := by decide +kernel
theorem dX12_reads_15 : decode cX12_reads 15 = .ok (.aload_n 0, 1) := by decide +kernel
theorem dX12_reads_16 : decode cX12_reads 16 = .ok (.aload_n 0, 1) := by decide +kernel
theorem dX12_reads_17 : decode cX12_reads 17 = .ok (.getfield 142, 3) := by decide +kernel
theorem dX12_reads_20 : decode cX12_reads 20 = .ok (.putfield 155, 3) := by decide +kernel
theorem dX12_reads_23 : decode cX12_reads 23 = .ok (.aload_n 0, 1) := by decide +kernel
theorem dX12_reads_24 : decode cX12_reads 24 = .ok (.aload_n 0, 1) := by decide +kernel
theorem dX12_reads_25 : decode cX12_reads 25 = .ok (.getfield 145, 3) := by decide +kernel
theorem dX12_reads_28 : decode cX12_reads 28 = .ok (.putfield 166, 3) := by decide +kernel
theorem dX12_reads_31 : decode cX12_reads 31 = .ok (.aload_n 0, 1) := by decide +kernel
theorem dX12_reads_32 : decode cX12_reads 32 = .ok (.aload_n 0, 1) := by decide +kernel
theorem dX12_reads_33 : decode cX12_reads 33 = .ok (.getfield 148, 3) := by decide +kernel
theorem dX12_reads_36 : decode cX12_reads 36 = .ok (.putfield 169, 3) := by decide +kernel
theorem dX12_reads_39 : decode cX12_reads 39 = .ok (.aload_n 0, 1) := by decide +kernel
theorem dX12_reads_40 : decode cX12_reads 40 = .ok (.invokevirtual 139, 3) := by decide +kernel
theorem dX12_reads_43 : decode cX12_reads 43 = .ok (.aload_n 0, 1) := by decide +kernel
theorem dX12_reads_44 : decode cX12_reads 44 = .ok (.invokevirtual 198, 3) := by decide +kernel
theorem dX12_reads_47 : decode cX12_reads 47 = .ok (.istore_n 2, 1) := by decide +kernel
theorem dX12_reads_48 : decode cX12_reads 48 = .ok (.aload_n 0, 1) := by decide +kernel
theorem dX12_reads_49 : decode cX12_reads 49 = .ok (.iconst 1, 1) := by decide +kernel
theorem dX12_reads_50 : decode cX12_reads 50 = .ok (.putfield 195, 3) := by decide +kernel
theorem dX12_reads_53 : decode cX12_reads 53 = .ok (.iload_n 2, 1) := by decide +kernel
theorem dX12_reads_54 : decode cX12_reads 54 = .ok (.ifCond .eq 69, 3) := by decide +kernel
theorem dX12_reads_57 : decode cX12_reads 57 = .ok (.aload_n 0, 1) := by decide +kernel
theorem dX12_reads_58 : decode cX12_reads 58 = .ok (.getfield 129, 3) := by decide +kernel
theorem dX12_reads_61 : decode cX12_reads 61 = .ok (.aload_n 0, 1) := by decide +kernel
theorem dX12_reads_62 : decode cX12_reads 62 = .ok (.getfield 115, 3) := by decide +kernel
theorem dX12_reads_65 : decode cX12_reads 65 = .ok (.if_icmp .ge 58, 3) := by decide +kernel
theorem dX12_reads_68 : decode cX12_reads 68 = .ok (.aload_n 0, 1) := by decide +kernel
theorem dX12_reads_69 : decode cX12_reads 69 = .ok (.getfield 195, 3) := by decide +kernel
theorem dX12_reads_72 : decode cX12_reads 72 = .ok (.bipush 20, 2) := by decide +kernel
theorem dX12_reads_74 : decode cX12_reads 74 = .ok (.if_icmp .ge 21, 3) := by decide +kernel
theorem dX12_reads_77 : decode cX12_reads 77 = .ok (.aload_n 0, 1) := by decide +kernel
theorem dX12_reads_78 : decode cX12_reads 78 = .ok (.getfield 45, 3) := by decide +kernel
theorem dX12_reads_81 : decode cX12_reads 81 = .ok (.aload_n 0, 1) := by decide +kernel
theorem dX12_reads_82 : decode cX12_reads 82 = .ok (.getfield 129, 3) := by decide +kernel
theorem dX12_reads_85 : decode cX12_reads 85 = .ok (.iaload, 1) := by decide +kernel
theorem dX12_reads_86 : decode cX12_reads 86 = .ok (.bipush 59, 2) := by decide +kernel
theorem dX12_reads_88 : decode cX12_reads 88 = .ok (.if_icmp .ne 7, 3) := by decide +kernel
theorem dX12_reads_91 : decode cX12_reads 91 = .ok (.iconst 1, 1) := by decide +kernel
theorem dX12_reads_92 : decode cX12_reads 92 = .ok (.goto 4, 3) := by decide +kernel
theorem dX12_reads_95 : decode cX12_reads 95 = .ok (.iconst 0, 1) := by decide +kernel
theorem dX12_reads_96 : decode cX12_reads 96 = .ok (.istore_n 2, 1) := by decide +kernel
theorem dX12_reads_97 : decode cX12_reads 97 = .ok (.iload_n 2, 1) := by decide +kernel
theorem dX12_reads_98 : decode cX12_reads 98 = .ok (.ifCond .eq (-45), 3) := by decide +kernel
theorem dX12_reads_101 : decode cX12_reads 101 = .ok (.aload_n 0, 1) := by decide +kernel
theorem dX12_reads_102 : decode cX12_reads 102 = .ok (.invokevirtual 139, 3) := by decide +kernel
theorem dX12_reads_105 : decode cX12_reads 105 = .ok (.aload_n 0, 1) := by decide +kernel
theorem dX12_reads_106 : decode cX12_reads 106 = .ok (.invokevirtual 198, 3) := by decide +kernel
theorem dX12_reads_109 : decode cX12_reads 109 = .ok (.istore_n 2, 1) := by decide +kernel
theorem dX12_reads_110 : decode cX12_reads 110 = .ok (.aload_n 0, 1) := by decide +kernel
theorem dX12_reads_111 : decode cX12_reads 111 = .ok (.dup, 1) := by decide +kernel
theorem dX12_reads_112 : decode cX12_reads 112 = .ok (.getfield 195, 3) := by decide +kernel
theorem dX12_reads_115 : decode cX12_reads 115 = .ok (.iconst 1, 1) := by decide +kernel
theorem dX12_reads_116 : decode cX12_reads 116 = .ok (.iadd, 1) := by decide +kernel
theorem dX12_reads_117 : decode cX12_reads 117 = .ok (.putfield 195, 3) := by decide +kernel
theorem dX12_reads_120 : decode cX12_reads 120 = .ok (.goto (-67), 3) := by decide +kernel
theorem dX12_reads_123 : decode cX12_reads 123 = .ok (.iload_n 2, 1) := by decide +kernel
theorem dX12_reads_124 : decode cX12_reads 124 = .ok (.ireturn, 1) := by decide +kernel
set_option maxRecDepth 20000 in
theorem ggX12_fault_X12_reads : GoodIn wsX12_fault wsX12_reads := goodIn_r _ [6, 7, 8, 9, 10, 11, 12, 13, 14, 15, 1, 16, 17, 18, 19, 20, 5, 21, 22, 23, 24, 25, 26, 27, 28, 29, 30, 31, 32, 33, 34, 35, 36, 37, 38, 39, 40, 41, 42, 43, 44, 45, 46, 47, 48, 49, 50, 51, 52, 53, 54, 55, 56, 57, 58, 59, 60, 61, 62, 63, 64, 65, 66, 67, 68, 69, 70, 71, 72, 73, 74, 75, 76, 77, 78, 79, 80, 81, 82, 83, 84, 85, 86, 87, 88, 89, 90, 91, 92, 93, 94, 95, 96, 97, 98, 99, 100, 101, 102, 103, 104, 105, 106, 107, 108, 109, 110, 111, 112, 113, 114, 115, 116, 117, 118, 119, 120, 121, 122, 123, 124, 125, 126, 127, 128, 129, 130, 131, 132, 133, 134, 135, 136, 137] rfl (by decide +kernel)
set_option maxRecDepth 20000 in
theorem gX12_fault_X12_reads : GoodIn wsX12_fault (wsV RX12 201 RX12 yX12_reads wsX12_reads) := goodIn_app (goodIn_of _ (by decide +kernel)) ggX12_fault_X12_reads
theorem dX12_fault_0 : decode cX12_fault 0 = .ok (.aload_n 0, 1) := by decide +kernel
theorem dX12_fault_1 : decode cX12_fault 1 = .ok (.iconst 0, 1) := by decide +kernel
theorem dX12_fault_2 : decode cX12_fault 2 = .ok (.invokevirtual 201, 3) := by decide +kernel
theorem dX12_fault_5 : decode cX12_fault 5 = .ok (.ifCond .eq 7, 3) := by decide +kernel
theorem dX12_fault_8 : decode cX12_fault 8 = .ok (.iconst (-1), 1) := by decide +kernel
theorem dX12_fault_9 : decode cX12_fault 9 = .ok (.goto 7, 3) := by decide +kernel
theorem dX12_fault_12 : decode cX12_fault 12 = .ok (.aload_n 0, 1) := by decide +kernel
theorem dX12_fault_13 : decode cX12_fault 13 = .ok (.getfield 129, 3) := by decide +kernel
theorem dX12_fault_16 : decode cX12_fault 16 = .ok (.ireturn, 1) := by decide +kernel
set_option maxRecDepth 20000 in
theorem ggX12_land_X12_reads : GoodIn wsX12_land wsX12_reads := goodIn_r _ [13, 14, 15, 8, 16, 17, 18, 19, 3, 20, 21, 1, 22, 23, 24, 25, 12, 26, 27, 28, 29, 30, 31, 32, 33, 34, 35, 36, 37, 38, 39, 40, 41, 42, 43, 44, 45, 46, 47, 48, 49, 50, 51, 52, 53, 54, 55, 56, 57, 58, 59, 60, 61, 62, 63, 64, 65, 66, 67, 68, 69, 70, 71, 72, 73, 74, 75, 76, 77, 78, 79, 80, 81, 82, 83, 84, 85, 86, 87, 88, 89, 90, 91, 92, 4, 93, 94, 95, 96, 97, 98, 99, 100, 101, 102, 103, 104, 105, 106, 107, 108, 109, 110, 111, 112, 113, 114, 115, 116, 117, 118, 119, 120, 121, 122, 123, 124, 125, 126, 127, 128, 129, 130, 131, 132, 133, 134, 135, 136, 137, 138, 139, 140, 141] rfl (by decide +kernel)
set_option maxRecDepth 20000 in
theorem gX12_land_X12_reads : GoodIn wsX12_land (wsV RX12 201 RX12 yX12_reads wsX12_reads) := goodIn_app (goodIn_of _ (by decide +kernel)) ggX12_land_X12_reads
theorem dX12_land_0 : decode cX12_land 0 = .ok (.aload_n 0, 1) := by decide +kernel
theorem dX12_land_1 : decode cX12_land 1 = .ok (.iconst 0, 1) := by decide +kernel
theorem dX12_land_2 : decode cX12_land 2 = .ok (.invokevirtual 201, 3) := by decide +kernel
theorem dX12_land_5 : decode cX12_land 5 = .ok (.ifCond .ne 6, 3) := by decide +kernel
theorem dX12_land_8 : decode cX12_land 8 = .ok (.bipush (-4), 2) := by decide +kernel
theorem dX12_land_10 : decode cX12_land 10 = .ok (.ireturn, 1) := by decide +kernel
theorem dX12_land_11 : decode cX12_land 11 = .ok (.aload_n 0, 1) := by decide +kernel
theorem dX12_land_12 : decode cX12_land 12 = .ok (.iconst 1, 1) := by decide +kernel
theorem dX12_land_13 : decode cX12_land 13 = .ok (.invokevirtual 201, 3) := by decide +kernel
theorem dX12_land_16 : decode cX12_land 16 = .ok (.pop, 1) := by decide +kernel
theorem dX12_land_17 : decode cX12_land 17 = .ok (.aload_n 0, 1) := by decide +kernel
theorem dX12_land_18 : decode cX12_land 18 = .ok (.iconst 0, 1) := by decide +kernel
theorem dX12_land_19 : decode cX12_land 19 = .ok (.putfield 115, 3) := by decide +kernel
theorem dX12_land_22 : decode cX12_land 22 = .ok (.iconst 0, 1) := by decide +kernel
theorem dX12_land_23 : decode cX12_land 23 = .ok (.istore_n 1, 1) := by decide +kernel
theorem dX12_land_24 : decode cX12_land 24 = .ok (.iload_n 1, 1) := by decide +kernel
theorem dX12_land_25 : decode cX12_land 25 = .ok (.bipush 23, 2) := by decide +kernel
theorem dX12_land_27 : decode cX12_land 27 = .ok (.if_icmp .ge 16, 3) := by decide +kernel
theorem dX12_land_30 : decode cX12_land 30 = .ok (.aload_n 0, 1) := by decide +kernel
theorem dX12_land_31 : decode cX12_land 31 = .ok (.getfield 7, 3) := by decide +kernel
theorem dX12_land_34 : decode cX12_land 34 = .ok (.iload_n 1, 1) := by decide +kernel
theorem dX12_land_35 : decode cX12_land 35 = .ok (.iconst 0, 1) := by decide +kernel
theorem dX12_land_36 : decode cX12_land 36 = .ok (.iastore, 1) := by decide +kernel
theorem dX12_land_37 : decode cX12_land 37 = .ok (.iinc 1 1, 3) := by decide +kernel
theorem dX12_land_40 : decode cX12_land 40 = .ok (.goto (-16), 3) := by decide +kernel
theorem dX12_land_43 : decode cX12_land 43 = .ok (.iconst 0, 1) := by decide +kernel
theorem dX12_land_44 : decode cX12_land 44 = .ok (.istore_n 1, 1) := by decide +kernel
theorem dX12_land_45 : decode cX12_land 45 = .ok (.iload_n 1, 1) := by decide +kernel
theorem dX12_land_46 : decode cX12_land 46 = .ok (.aload_n 0, 1) := by decide +kernel
theorem dX12_land_47 : decode cX12_land 47 = .ok (.getfield 148, 3) := by decide +kernel
theorem dX12_land_50 : decode cX12_land 50 = .ok (.if_icmp .ge 24, 3) := by decide +kernel
theorem dX12_land_53 : decode cX12_land 53 = .ok (.aload_n 0, 1) := by decide +kernel
theorem dX12_land_54 : decode cX12_land 54 = .ok (.getfield 7, 3) := by decide +kernel
theorem dX12_land_57 : decode cX12_land 57 = .ok (.bipush 17, 2) := by decide +kernel
theorem dX12_land_59 : decode cX12_land 59 = .ok (.iload_n 1, 1) := by decide +kernel
theorem dX12_land_60 : decode cX12_land 60 = .ok (.iadd, 1) := by decide +kernel
theorem dX12_land_61 : decode cX12_land 61 = .ok (.aload_n 0, 1) := by decide +kernel
theorem dX12_land_62 : decode cX12_land 62 = .ok (.getfield 38, 3) := by decide +kernel
theorem dX12_land_65 : decode cX12_land 65 = .ok (.iload_n 1, 1) := by decide +kernel
theorem dX12_land_66 : decode cX12_land 66 = .ok (.iaload, 1) := by decide +kernel
theorem dX12_land_67 : decode cX12_land 67 = .ok (.iastore, 1) := by decide +kernel
theorem dX12_land_68 : decode cX12_land 68 = .ok (.iinc 1 1, 3) := by decide +kernel
theorem dX12_land_71 : decode cX12_land 71 = .ok (.goto (-26), 3) := by decide +kernel
theorem dX12_land_74 : decode cX12_land 74 = .ok (.aload_n 0, 1) := by decide +kernel
theorem dX12_land_75 : decode cX12_land 75 = .ok (.iconst 0, 1) := by decide +kernel
theorem dX12_land_76 : decode cX12_land 76 = .ok (.putfield 205, 3) := by decide +kernel
theorem dX12_land_79 : decode cX12_land 79 = .ok (.aload_n 0, 1) := by decide +kernel
theorem dX12_land_80 : decode cX12_land 80 = .ok (.getfield 13, 3) := by decide +kernel
theorem dX12_land_83 : decode cX12_land 83 = .ok (.iconst 0, 1) := by decide +kernel
theorem dX12_land_84 : decode cX12_land 84 = .ok (.iconst 0, 1) := by decide +kernel
theorem dX12_land_85 : decode cX12_land 85 = .ok (.bastore, 1) := by decide +kernel
theorem dX12_land_86 : decode cX12_land 86 = .ok (.aload_n 0, 1) := by decide +kernel
theorem dX12_land_87 : decode cX12_land 87 = .ok (.getfield 13, 3) := by decide +kernel
theorem dX12_land_90 : decode cX12_land 90 = .ok (.iconst 1, 1) := by decide +kernel
theorem dX12_land_91 : decode cX12_land 91 = .ok (.iconst 0, 1) := by decide +kernel
theorem dX12_land_92 : decode cX12_land 92 = .ok (.bastore, 1) := by decide +kernel
theorem dX12_land_93 : decode cX12_land 93 = .ok (.aload_n 0, 1) := by decide +kernel
theorem dX12_land_94 : decode cX12_land 94 = .ok (.iconst 0, 1) := by decide +kernel
theorem dX12_land_95 : decode cX12_land 95 = .ok (.putfield 208, 3) := by decide +kernel
theorem dX12_land_98 : decode cX12_land 98 = .ok (.aload_n 0, 1) := by decide +kernel
theorem dX12_land_99 : decode cX12_land 99 = .ok (.getfield 195, 3) := by decide +kernel
theorem dX12_land_102 : decode cX12_land 102 = .ok (.ireturn, 1) := by decide +kernel
set_option maxRecDepth 20000 in
theorem ggX12_isKey_X12_in : GoodIn wsX12_isKey wsX12_in := goodIn_r _ [5] rfl (by decide +kernel)
set_option maxRecDepth 20000 in
theorem gX12_isKey_X12_in : GoodIn wsX12_isKey (va_wsS RX12 111 yX12_in wsX12_in) := goodIn_app (goodIn_of _ (by decide +kernel)) ggX12_isKey_X12_in
theorem dX12_isKey_0 : decode cX12_isKey 0 = .ok (.iload_n 1, 1) := by decide +kernel
theorem dX12_isKey_1 : decode cX12_isKey 1 = .ok (.i2l, 1) := by decide +kernel
theorem dX12_isKey_2 : decode cX12_isKey 2 = .ok (.lconst 0, 1) := by decide +kernel
theorem dX12_isKey_3 : decode cX12_isKey 3 = .ok (.aload_n 0, 1) := by decide +kernel
theorem dX12_isKey_4 : decode cX12_isKey 4 = .ok (.getfield 142, 3) := by decide +kernel
theorem dX12_isKey_7 : decode cX12_isKey 7 = .ok (.iconst 1, 1) := by decide +kernel
theorem dX12_isKey_8 : decode cX12_isKey 8 = .ok (.isub, 1) := by decide +kernel
theorem dX12_isKey_9 : decode cX12_isKey 9 = .ok (.i2l, 1) := by decide +kernel
theorem dX12_isKey_10 : decode cX12_isKey 10 = .ok (.invokestatic 111, 3) := by decide +kernel
theorem dX12_isKey_13 : decode cX12_isKey 13 = .ok (.ireturn, 1) := by decide +kernel
set_option maxRecDepth 20000 in
theorem ggX12_isLock_X12_in : GoodIn wsX12_isLock wsX12_in := goodIn_r _ [5] rfl (by decide +kernel)
set_option maxRecDepth 20000 in
theorem gX12_isLock_X12_in : GoodIn wsX12_isLock (va_wsS RX12 111 yX12_in wsX12_in) := goodIn_app (goodIn_of _ (by decide +kernel)) ggX12_isLock_X12_in
theorem dX12_isLock_0 : decode cX12_isLock 0 = .ok (.iload_n 1, 1) := by decide +kernel
theorem dX12_isLock_1 : decode cX12_isLock 1 = .ok (.i2l, 1) := by decide +kernel
theorem dX12_isLock_2 : decode cX12_isLock 2 = .ok (.lconst 0, 1) := by decide +kernel
theorem dX12_isLock_3 : decode cX12_isLock 3 = .ok (.aload_n 0, 1) := by decide +kernel
theorem dX12_isLock_4 : decode cX12_isLock 4 = .ok (.getfield 145, 3) := by decide +kernel
theorem dX12_isLock_7 : decode cX12_isLock 7 = .ok (.iconst 1, 1) := by decide +kernel
theorem dX12_isLock_8 : decode cX12_isLock 8 = .ok (.isub, 1) := by decide +kernel
theorem dX12_isLock_9 : decode cX12_isLock 9 = .ok (.i2l, 1) := by decide +kernel
theorem dX12_isLock_10 : decode cX12_isLock 10 = .ok (.invokestatic 111, 3) := by decide +kernel
theorem dX12_isLock_13 : decode cX12_isLock 13 = .ok (.ireturn, 1) := by decide +kernel
set_option maxRecDepth 20000 in
theorem ggX12_isWalker_X12_in : GoodIn wsX12_isWalker wsX12_in := goodIn_r _ [5] rfl (by decide +kernel)
set_option maxRecDepth 20000 in
theorem gX12_isWalker_X12_in : GoodIn wsX12_isWalker (va_wsS RX12 111 yX12_in wsX12_in) := goodIn_app (goodIn_of _ (by decide +kernel)) ggX12_isWalker_X12_in
theorem dX12_isWalker_0 : decode cX12_isWalker 0 = .ok (.iload_n 1, 1) := by decide +kernel
theorem dX12_isWalker_1 : decode cX12_isWalker 1 = .ok (.i2l, 1) := by decide +kernel
theorem dX12_isWalker_2 : decode cX12_isWalker 2 = .ok (.lconst 0, 1) := by decide +kernel
theorem dX12_isWalker_3 : decode cX12_isWalker 3 = .ok (.aload_n 0, 1) := by decide +kernel
theorem dX12_isWalker_4 : decode cX12_isWalker 4 = .ok (.getfield 148, 3) := by decide +kernel
theorem dX12_isWalker_7 : decode cX12_isWalker 7 = .ok (.iconst 1, 1) := by decide +kernel
theorem dX12_isWalker_8 : decode cX12_isWalker 8 = .ok (.isub, 1) := by decide +kernel
theorem dX12_isWalker_9 : decode cX12_isWalker 9 = .ok (.i2l, 1) := by decide +kernel
theorem dX12_isWalker_10 : decode cX12_isWalker 10 = .ok (.invokestatic 111, 3) := by decide +kernel
theorem dX12_isWalker_13 : decode cX12_isWalker 13 = .ok (.ireturn, 1) := by decide +kernel
set_option maxRecDepth 20000 in
theorem ggX12_without_X12_has : GoodIn wsX12_without wsX12_has := goodIn_r _ [4] rfl (by decide +kernel)
set_option maxRecDepth 20000 in
theorem gX12_without_X12_has : GoodIn wsX12_without (va_wsS RX12 211 yX12_has wsX12_has) := goodIn_app (goodIn_of _ (by decide +kernel)) ggX12_without_X12_has
theorem dX12_without_0 : decode cX12_without 0 = .ok (.iload_n 0, 1) := by decide +kernel
theorem dX12_without_1 : decode cX12_without 1 = .ok (.istore_n 3, 1) := by decide +kernel
theorem dX12_without_2 : decode cX12_without 2 = .ok (.iconst 0, 1) := by decide +kernel
theorem dX12_without_3 : decode cX12_without 3 = .ok (.istore 4, 2) := by decide +kernel
theorem dX12_without_5 : decode cX12_without 5 = .ok (.iconst 0, 1) := by decide +kernel
theorem dX12_without_6 : decode cX12_without 6 = .ok (.istore 5, 2) := by decide +kernel
theorem dX12_without_8 : decode cX12_without 8 = .ok (.iload 5, 2) := by decide +kernel
theorem dX12_without_10 : decode cX12_without 10 = .ok (.bipush 9, 2) := by decide +kernel
theorem dX12_without_12 : decode cX12_without 12 = .ok (.if_icmp .ge 52, 3) := by decide +kernel
theorem dX12_without_15 : decode cX12_without 15 = .ok (.iload_n 2, 1) := by decide +kernel
theorem dX12_without_16 : decode cX12_without 16 = .ok (.ifCond .eq 11, 3) := by decide +kernel
theorem dX12_without_19 : decode cX12_without 19 = .ok (.bipush 8, 2) := by decide +kernel
theorem dX12_without_21 : decode cX12_without 21 = .ok (.iload 5, 2) := by decide +kernel
theorem dX12_without_23 : decode cX12_without 23 = .ok (.isub, 1) := by decide +kernel
theorem dX12_without_24 : decode cX12_without 24 = .ok (.goto 5, 3) := by decide +kernel
theorem dX12_without_27 : decode cX12_without 27 = .ok (.iload 5, 2) := by decide +kernel
theorem dX12_without_29 : decode cX12_without 29 = .ok (.istore 6, 2) := by decide +kernel
theorem dX12_without_31 : decode cX12_without 31 = .ok (.iload_n 3, 1) := by decide +kernel
theorem dX12_without_32 : decode cX12_without 32 = .ok (.iload 6, 2) := by decide +kernel
theorem dX12_without_34 : decode cX12_without 34 = .ok (.invokestatic 211, 3) := by decide +kernel
theorem dX12_without_37 : decode cX12_without 37 = .ok (.ifCond .eq 21, 3) := by decide +kernel
theorem dX12_without_40 : decode cX12_without 40 = .ok (.iload 4, 2) := by decide +kernel
theorem dX12_without_42 : decode cX12_without 42 = .ok (.iload_n 1, 1) := by decide +kernel
theorem dX12_without_43 : decode cX12_without 43 = .ok (.if_icmp .ge 15, 3) := by decide +kernel
theorem dX12_without_46 : decode cX12_without 46 = .ok (.iload_n 3, 1) := by decide +kernel
theorem dX12_without_47 : decode cX12_without 47 = .ok (.iconst 1, 1) := by decide +kernel
theorem dX12_without_48 : decode cX12_without 48 = .ok (.iload 6, 2) := by decide +kernel
theorem dX12_without_50 : decode cX12_without 50 = .ok (.ishl, 1) := by decide +kernel
theorem dX12_without_51 : decode cX12_without 51 = .ok (.iconst (-1), 1) := by decide +kernel
theorem dX12_without_52 : decode cX12_without 52 = .ok (.ixor, 1) := by decide +kernel
theorem dX12_without_53 : decode cX12_without 53 = .ok (.iand, 1) := by decide +kernel
theorem dX12_without_54 : decode cX12_without 54 = .ok (.istore_n 3, 1) := by decide +kernel
theorem dX12_without_55 : decode cX12_without 55 = .ok (.iinc 4 1, 3) := by decide +kernel
theorem dX12_without_58 : decode cX12_without 58 = .ok (.iinc 5 1, 3) := by decide +kernel
theorem dX12_without_61 : decode cX12_without 61 = .ok (.goto (-53), 3) := by decide +kernel
theorem dX12_without_64 : decode cX12_without 64 = .ok (.iload_n 3, 1) := by decide +kernel
theorem dX12_without_65 : decode cX12_without 65 = .ok (.ireturn, 1) := by decide +kernel
set_option maxRecDepth 20000 in
theorem ggX12_edgeBy_X12_without : GoodIn wsX12_edgeBy wsX12_without := goodIn_r _ [4, 5, 6, 3, 7] rfl (by decide +kernel)
set_option maxRecDepth 20000 in
theorem gX12_edgeBy_X12_without : GoodIn wsX12_edgeBy (va_wsS RX12 215 yX12_without wsX12_without) := goodIn_app (goodIn_of _ (by decide +kernel)) ggX12_edgeBy_X12_without
theorem dX12_edgeBy_0 : decode cX12_edgeBy 0 = .ok (.iload_n 1, 1) := by decide +kernel
theorem dX12_edgeBy_1 : decode cX12_edgeBy 1 = .ok (.iload_n 3, 1) := by decide +kernel
theorem dX12_edgeBy_2 : decode cX12_edgeBy 2 = .ok (.ishl, 1) := by decide +kernel
theorem dX12_edgeBy_3 : decode cX12_edgeBy 3 = .ok (.iload_n 1, 1) := by decide +kernel
theorem dX12_edgeBy_4 : decode cX12_edgeBy 4 = .ok (.bipush 9, 2) := by decide +kernel
theorem dX12_edgeBy_6 : decode cX12_edgeBy 6 = .ok (.iload_n 3, 1) := by decide +kernel
theorem dX12_edgeBy_7 : decode cX12_edgeBy 7 = .ok (.isub, 1) := by decide +kernel
theorem dX12_edgeBy_8 : decode cX12_edgeBy 8 = .ok (.ishr, 1) := by decide +kernel
theorem dX12_edgeBy_9 : decode cX12_edgeBy 9 = .ok (.ior, 1) := by decide +kernel
theorem dX12_edgeBy_10 : decode cX12_edgeBy 10 = .ok (.sipush 511, 3) := by decide +kernel
theorem dX12_edgeBy_13 : decode cX12_edgeBy 13 = .ok (.iand, 1) := by decide +kernel
theorem dX12_edgeBy_14 : decode cX12_edgeBy 14 = .ok (.istore 4, 2) := by decide +kernel
theorem dX12_edgeBy_16 : decode cX12_edgeBy 16 = .ok (.iload_n 0, 1) := by decide +kernel
theorem dX12_edgeBy_17 : decode cX12_edgeBy 17 = .ok (.iconst 1, 1) := by decide +kernel
theorem dX12_edgeBy_18 : decode cX12_edgeBy 18 = .ok (.if_icmp .ne 13, 3) := by decide +kernel
theorem dX12_edgeBy_21 : decode cX12_edgeBy 21 = .ok (.iload 4, 2) := by decide +kernel
theorem dX12_edgeBy_23 : decode cX12_edgeBy 23 = .ok (.iload_n 2, 1) := by decide +kernel
theorem dX12_edgeBy_24 : decode cX12_edgeBy 24 = .ok (.iconst 1, 1) := by decide +kernel
theorem dX12_edgeBy_25 : decode cX12_edgeBy 25 = .ok (.invokestatic 215, 3) := by decide +kernel
theorem dX12_edgeBy_28 : decode cX12_edgeBy 28 = .ok (.goto 20, 3) := by decide +kernel
theorem dX12_edgeBy_31 : decode cX12_edgeBy 31 = .ok (.iload_n 0, 1) := by decide +kernel
theorem dX12_edgeBy_32 : decode cX12_edgeBy 32 = .ok (.iconst 3, 1) := by decide +kernel
theorem dX12_edgeBy_33 : decode cX12_edgeBy 33 = .ok (.if_icmp .ne 13, 3) := by decide +kernel
theorem dX12_edgeBy_36 : decode cX12_edgeBy 36 = .ok (.iload 4, 2) := by decide +kernel
theorem dX12_edgeBy_38 : decode cX12_edgeBy 38 = .ok (.iload_n 2, 1) := by decide +kernel
theorem dX12_edgeBy_39 : decode cX12_edgeBy 39 = .ok (.iconst 0, 1) := by decide +kernel
theorem dX12_edgeBy_40 : decode cX12_edgeBy 40 = .ok (.invokestatic 215, 3) := by decide +kernel
theorem dX12_edgeBy_43 : decode cX12_edgeBy 43 = .ok (.goto 5, 3) := by decide +kernel
theorem dX12_edgeBy_46 : decode cX12_edgeBy 46 = .ok (.iload 4, 2) := by decide +kernel
theorem dX12_edgeBy_48 : decode cX12_edgeBy 48 = .ok (.ireturn, 1) := by decide +kernel
set_option maxRecDepth 20000 in
theorem ggX12_edge_X12_edgeBy : GoodIn wsX12_edge wsX12_edgeBy := goodIn_r _ [8, 9, 10, 7, 11, 12, 13, 14] rfl (by decide +kernel)
set_option maxRecDepth 20000 in
theorem gX12_edge_X12_edgeBy : GoodIn wsX12_edge (va_wsS RX12 219 yX12_edgeBy wsX12_edgeBy) := goodIn_app (goodIn_of _ (by decide +kernel)) ggX12_edge_X12_edgeBy
theorem dX12_edge_0 : decode cX12_edge 0 = .ok (.aload_n 0, 1) := by decide +kernel
theorem dX12_edge_1 : decode cX12_edge 1 = .ok (.getfield 17, 3) := by decide +kernel
theorem dX12_edge_4 : decode cX12_edge 4 = .ok (.iload_n 1, 1) := by decide +kernel
theorem dX12_edge_5 : decode cX12_edge 5 = .ok (.iaload, 1) := by decide +kernel
theorem dX12_edge_6 : decode cX12_edge 6 = .ok (.aload_n 0, 1) := by decide +kernel
theorem dX12_edge_7 : decode cX12_edge 7 = .ok (.getfield 20, 3) := by decide +kernel
theorem dX12_edge_10 : decode cX12_edge 10 = .ok (.iload_n 1, 1) := by decide +kernel
theorem dX12_edge_11 : decode cX12_edge 11 = .ok (.iaload, 1) := by decide +kernel
theorem dX12_edge_12 : decode cX12_edge 12 = .ok (.aload_n 0, 1) := by decide +kernel
theorem dX12_edge_13 : decode cX12_edge 13 = .ok (.getfield 23, 3) := by decide +kernel
theorem dX12_edge_16 : decode cX12_edge 16 = .ok (.iload_n 1, 1) := by decide +kernel
theorem dX12_edge_17 : decode cX12_edge 17 = .ok (.iaload, 1) := by decide +kernel
theorem dX12_edge_18 : decode cX12_edge 18 = .ok (.aload_n 0, 1) := by decide +kernel
theorem dX12_edge_19 : decode cX12_edge 19 = .ok (.getfield 7, 3) := by decide +kernel
theorem dX12_edge_22 : decode cX12_edge 22 = .ok (.iconst 3, 1) := by decide +kernel
theorem dX12_edge_23 : decode cX12_edge 23 = .ok (.iload_n 1, 1) := by decide +kernel
theorem dX12_edge_24 : decode cX12_edge 24 = .ok (.iadd, 1) := by decide +kernel
theorem dX12_edge_25 : decode cX12_edge 25 = .ok (.iaload, 1) := by decide +kernel
theorem dX12_edge_26 : decode cX12_edge 26 = .ok (.invokestatic 219, 3) := by decide +kernel
theorem dX12_edge_29 : decode cX12_edge 29 = .ok (.ireturn, 1) := by decide +kernel
theorem dX12_roomBy_0 : decode cX12_roomBy 0 = .ok (.iload_n 0, 1) := by decide +kernel
theorem dX12_roomBy_1 : decode cX12_roomBy 1 = .ok (.iconst 1, 1) := by decide +kernel
theorem dX12_roomBy_2 : decode cX12_roomBy 2 = .ok (.if_icmp .ne 9, 3) := by decide +kernel
theorem dX12_roomBy_5 : decode cX12_roomBy 5 = .ok (.iload_n 1, 1) := by decide +kernel
theorem dX12_roomBy_6 : decode cX12_roomBy 6 = .ok (.iconst 1, 1) := by decide +kernel
theorem dX12_roomBy_7 : decode cX12_roomBy 7 = .ok (.iadd, 1) := by decide +kernel
theorem dX12_roomBy_8 : decode cX12_roomBy 8 = .ok (.goto 14, 3) := by decide +kernel
theorem dX12_roomBy_11 : decode cX12_roomBy 11 = .ok (.iload_n 0, 1) := by decide +kernel
theorem dX12_roomBy_12 : decode cX12_roomBy 12 = .ok (.iconst 2, 1) := by decide +kernel
theorem dX12_roomBy_13 : decode cX12_roomBy 13 = .ok (.if_icmp .ne 8, 3) := by decide +kernel
theorem dX12_roomBy_16 : decode cX12_roomBy 16 = .ok (.bipush 9, 2) := by decide +kernel
theorem dX12_roomBy_18 : decode cX12_roomBy 18 = .ok (.goto 4, 3) := by decide +kernel
theorem dX12_roomBy_21 : decode cX12_roomBy 21 = .ok (.iload_n 1, 1) := by decide +kernel
theorem dX12_roomBy_22 : decode cX12_roomBy 22 = .ok (.ireturn, 1) := by decide +kernel
set_option maxRecDepth 20000 in
theorem ggX12_goesBy_X12_bits : GoodIn wsX12_goesBy wsX12_bits := goodIn_r _ [6] rfl (by decide +kernel)
set_option maxRecDepth 20000 in
theorem gX12_goesBy_X12_bits : GoodIn wsX12_goesBy (va_wsS RX12 223 yX12_bits wsX12_bits) := goodIn_app (goodIn_of _ (by decide +kernel)) ggX12_goesBy_X12_bits
set_option maxRecDepth 20000 in
theorem ggX12_goesBy_X12_roomBy : GoodIn wsX12_goesBy wsX12_roomBy := goodIn_r _ [9] rfl (by decide +kernel)
set_option maxRecDepth 20000 in
theorem gX12_goesBy_X12_roomBy : GoodIn wsX12_goesBy (va_wsS RX12 227 yX12_roomBy wsX12_roomBy) := goodIn_app (goodIn_of _ (by decide +kernel)) ggX12_goesBy_X12_roomBy
theorem dX12_goesBy_0 : decode cX12_goesBy 0 = .ok (.aload_n 0, 1) := by decide +kernel
theorem dX12_goesBy_1 : decode cX12_goesBy 1 = .ok (.getfield 29, 3) := by decide +kernel
theorem dX12_goesBy_4 : decode cX12_goesBy 4 = .ok (.iload_n 3, 1) := by decide +kernel
theorem dX12_goesBy_5 : decode cX12_goesBy 5 = .ok (.iaload, 1) := by decide +kernel
theorem dX12_goesBy_6 : decode cX12_goesBy 6 = .ok (.iload_n 2, 1) := by decide +kernel
theorem dX12_goesBy_7 : decode cX12_goesBy 7 = .ok (.iconst (-1), 1) := by decide +kernel
theorem dX12_goesBy_8 : decode cX12_goesBy 8 = .ok (.ixor, 1) := by decide +kernel
theorem dX12_goesBy_9 : decode cX12_goesBy 9 = .ok (.iand, 1) := by decide +kernel
theorem dX12_goesBy_10 : decode cX12_goesBy 10 = .ok (.ifCond .ne 33, 3) := by decide +kernel
theorem dX12_goesBy_13 : decode cX12_goesBy 13 = .ok (.iload_n 2, 1) := by decide +kernel
theorem dX12_goesBy_14 : decode cX12_goesBy 14 = .ok (.aload_n 0, 1) := by decide +kernel
theorem dX12_goesBy_15 : decode cX12_goesBy 15 = .ok (.getfield 29, 3) := by decide +kernel
theorem dX12_goesBy_18 : decode cX12_goesBy 18 = .ok (.iload_n 3, 1) := by decide +kernel
theorem dX12_goesBy_19 : decode cX12_goesBy 19 = .ok (.iaload, 1) := by decide +kernel
theorem dX12_goesBy_20 : decode cX12_goesBy 20 = .ok (.iconst (-1), 1) := by decide +kernel
theorem dX12_goesBy_21 : decode cX12_goesBy 21 = .ok (.ixor, 1) := by decide +kernel
theorem dX12_goesBy_22 : decode cX12_goesBy 22 = .ok (.iand, 1) := by decide +kernel
theorem dX12_goesBy_23 : decode cX12_goesBy 23 = .ok (.invokestatic 223, 3) := by decide +kernel
theorem dX12_goesBy_26 : decode cX12_goesBy 26 = .ok (.iload_n 1, 1) := by decide +kernel
theorem dX12_goesBy_27 : decode cX12_goesBy 27 = .ok (.aload_n 0, 1) := by decide +kernel
theorem dX12_goesBy_28 : decode cX12_goesBy 28 = .ok (.getfield 32, 3) := by decide +kernel
theorem dX12_goesBy_31 : decode cX12_goesBy 31 = .ok (.iload_n 3, 1) := by decide +kernel
theorem dX12_goesBy_32 : decode cX12_goesBy 32 = .ok (.iaload, 1) := by decide +kernel
theorem dX12_goesBy_33 : decode cX12_goesBy 33 = .ok (.invokestatic 227, 3) := by decide +kernel
theorem dX12_goesBy_36 : decode cX12_goesBy 36 = .ok (.if_icmp .gt 7, 3) := by decide +kernel
theorem dX12_goesBy_39 : decode cX12_goesBy 39 = .ok (.iconst 1, 1) := by decide +kernel
theorem dX12_goesBy_40 : decode cX12_goesBy 40 = .ok (.goto 4, 3) := by decide +kernel
theorem dX12_goesBy_43 : decode cX12_goesBy 43 = .ok (.iconst 0, 1) := by decide +kernel
theorem dX12_goesBy_44 : decode cX12_goesBy 44 = .ok (.ireturn, 1) := by decide +kernel
set_option maxRecDepth 20000 in
theorem ggX12_doesGo_X12_edge : GoodIn wsX12_doesGo wsX12_edge := goodIn_r _ [6, 1, 7, 8, 9, 10, 11, 5, 12, 13, 14, 15, 16, 17, 18, 31, 32, 33, 34, 35, 36, 37, 38, 39, 40, 41, 42, 43, 44, 45, 46, 47, 48, 49, 50, 51, 52, 53, 54, 55, 56, 57, 58, 59, 60, 61, 62, 63, 64, 65, 66, 67, 68, 69, 70, 71, 72, 73, 74, 75] rfl (by decide +kernel)
set_option maxRecDepth 20000 in
theorem gX12_doesGo_X12_edge : GoodIn wsX12_doesGo (wsV RX12 231 RX12 yX12_edge wsX12_edge) := goodIn_app (goodIn_of _ (by decide +kernel)) ggX12_doesGo_X12_edge
set_option maxRecDepth 20000 in
theorem ggX12_doesGo_X12_goesBy : GoodIn wsX12_doesGo wsX12_goesBy := goodIn_r _ [22, 23, 24, 25, 26, 5, 27, 28, 29, 30, 31, 32, 33, 34, 35, 36, 37, 38, 39, 40, 41, 42, 43, 44, 45, 46, 47, 48, 49, 50, 51, 52, 53, 54, 55, 56, 57, 58, 59, 60, 61, 62, 63, 64, 65, 66, 67, 68, 69, 70, 71, 72, 73, 74, 75] rfl (by decide +kernel)
set_option maxRecDepth 20000 in
theorem gX12_doesGo_X12_goesBy : GoodIn wsX12_doesGo (wsV RX12 234 RX12 yX12_goesBy wsX12_goesBy) := goodIn_app (goodIn_of _ (by decide +kernel)) ggX12_doesGo_X12_goesBy
theorem dX12_doesGo_0 : decode cX12_doesGo 0 = .ok (.aload_n 0, 1) := by decide +kernel
theorem dX12_doesGo_1 : decode cX12_doesGo 1 = .ok (.aload_n 0, 1) := by decide +kernel
theorem dX12_doesGo_2 : decode cX12_doesGo 2 = .ok (.getfield 17, 3) := by decide +kernel
theorem dX12_doesGo_5 : decode cX12_doesGo 5 = .ok (.iload_n 1, 1) := by decide +kernel
theorem dX12_doesGo_6 : decode cX12_doesGo 6 = .ok (.iaload, 1) := by decide +kernel
theorem dX12_doesGo_7 : decode cX12_doesGo 7 = .ok (.aload_n 0, 1) := by decide +kernel
theorem dX12_doesGo_8 : decode cX12_doesGo 8 = .ok (.iload_n 1, 1) := by decide +kernel
theorem dX12_doesGo_9 : decode cX12_doesGo 9 = .ok (.invokevirtual 231, 3) := by decide +kernel
theorem dX12_doesGo_12 : decode cX12_doesGo 12 = .ok (.iload_n 2, 1) := by decide +kernel
theorem dX12_doesGo_13 : decode cX12_doesGo 13 = .ok (.invokevirtual 234, 3) := by decide +kernel
theorem dX12_doesGo_16 : decode cX12_doesGo 16 = .ok (.ireturn, 1) := by decide +kernel
theorem dX12_isBroken_0 : decode cX12_isBroken 0 = .ok (.aload_n 0, 1) := by decide +kernel
theorem dX12_isBroken_1 : decode cX12_isBroken 1 = .ok (.getfield 7, 3) := by decide +kernel
theorem dX12_isBroken_4 : decode cX12_isBroken 4 = .ok (.bipush 10, 2) := by decide +kernel
theorem dX12_isBroken_6 : decode cX12_isBroken 6 = .ok (.iload_n 1, 1) := by decide +kernel
theorem dX12_isBroken_7 : decode cX12_isBroken 7 = .ok (.iadd, 1) := by decide +kernel
theorem dX12_isBroken_8 : decode cX12_isBroken 8 = .ok (.iaload, 1) := by decide +kernel
theorem dX12_isBroken_9 : decode cX12_isBroken 9 = .ok (.iconst 3, 1) := by decide +kernel
theorem dX12_isBroken_10 : decode cX12_isBroken 10 = .ok (.if_icmp .ne 7, 3) := by decide +kernel
theorem dX12_isBroken_13 : decode cX12_isBroken 13 = .ok (.iconst 1, 1) := by decide +kernel
theorem dX12_isBroken_14 : decode cX12_isBroken 14 = .ok (.goto 4, 3) := by decide +kernel
theorem dX12_isBroken_17 : decode cX12_isBroken 17 = .ok (.iconst 0, 1) := by decide +kernel
theorem dX12_isBroken_18 : decode cX12_isBroken 18 = .ok (.ireturn, 1) := by decide +kernel
set_option maxRecDepth 20000 in
theorem ggX12_isOpen_X12_has : GoodIn wsX12_isOpen wsX12_has := goodIn_r _ [5] rfl (by decide +kernel)
set_option maxRecDepth 20000 in
theorem gX12_isOpen_X12_has : GoodIn wsX12_isOpen (va_wsS RX12 211 yX12_has wsX12_has) := goodIn_app (goodIn_of _ (by decide +kernel)) ggX12_isOpen_X12_has
theorem dX12_isOpen_0 : decode cX12_isOpen 0 = .ok (.aload_n 0, 1) := by decide +kernel
theorem dX12_isOpen_1 : decode cX12_isOpen 1 = .ok (.getfield 7, 3) := by decide +kernel
theorem dX12_isOpen_4 : decode cX12_isOpen 4 = .ok (.iconst 2, 1) := by decide +kernel
theorem dX12_isOpen_5 : decode cX12_isOpen 5 = .ok (.iaload, 1) := by decide +kernel
theorem dX12_isOpen_6 : decode cX12_isOpen 6 = .ok (.iload_n 1, 1) := by decide +kernel
theorem dX12_isOpen_7 : decode cX12_isOpen 7 = .ok (.invokestatic 211, 3) := by decide +kernel
theorem dX12_isOpen_10 : decode cX12_isOpen 10 = .ok (.ireturn, 1) := by decide +kernel
set_option maxRecDepth 20000 in
theorem ggX12_key_X12_isKey : GoodIn wsX12_key wsX12_isKey := goodIn_r _ [9, 10, 11, 12, 8, 13, 31, 32, 33, 34, 35, 36, 37, 38, 39, 40, 41, 42, 43, 44, 45, 46, 47, 48, 49, 50, 51, 52, 53, 54, 55, 56, 57, 58, 59, 60, 61, 62, 63, 64, 65, 66, 67, 68, 69, 70, 71, 72, 73, 74, 75] rfl (by decide +kernel)
set_option maxRecDepth 20000 in
theorem gX12_key_X12_isKey : GoodIn wsX12_key (wsV RX12 237 RX12 yX12_isKey wsX12_isKey) := goodIn_app (goodIn_of _ (by decide +kernel)) ggX12_key_X12_isKey
set_option maxRecDepth 20000 in
theorem ggX12_key_X12_edge : GoodIn wsX12_key wsX12_edge := goodIn_r _ [17, 1, 2, 3, 4, 18, 19, 8, 20, 21, 22, 23, 24, 25, 26, 31, 32, 33, 34, 35, 36, 37, 38, 39, 40, 41, 42, 43, 44, 45, 46, 47, 48, 49, 50, 51, 52, 53, 54, 55, 56, 57, 58, 59, 60, 61, 62, 63, 64, 65, 66, 67, 68, 69, 70, 71, 72, 73, 74, 75] rfl (by decide +kernel)
set_option maxRecDepth 20000 in
theorem gX12_key_X12_edge : GoodIn wsX12_key (wsV RX12 231 RX12 yX12_edge wsX12_edge) := goodIn_app (goodIn_of _ (by decide +kernel)) ggX12_key_X12_edge
set_option maxRecDepth 20000 in
theorem ggX12_key_X12_isBroken : GoodIn wsX12_key wsX12_isBroken := goodIn_r _ [30, 4, 31, 32, 33, 34, 35, 36, 37, 38, 39, 40, 41, 42, 43, 44, 45, 46, 47, 48, 49, 50, 51, 52, 53, 54, 55, 56, 57, 58, 59, 60, 61, 62, 63, 64, 65, 66, 67, 68, 69, 70, 71, 72, 73, 74, 75] rfl (by decide +kernel)
set_option maxRecDepth 20000 in
theorem gX12_key_X12_isBroken : GoodIn wsX12_key (wsV RX12 240 RX12 yX12_isBroken wsX12_isBroken) := goodIn_app (goodIn_of _ (by decide +kernel)) ggX12_key_X12_isBroken
theorem dX12_key_0 : decode cX12_key 0 = .ok (.aload_n 0, 1) := by decide +kernel
theorem dX12_key_1 : decode cX12_key 1 = .ok (.iload_n 1, 1) := by decide +kernel
theorem dX12_key_2 : decode cX12_key 2 = .ok (.invokevirtual 237, 3) := by decide +kernel
theorem dX12_key_5 : decode cX12_key 5 = .ok (.ifCond .ne 6, 3) := by decide +kernel
theorem dX12_key_8 : decode cX12_key 8 = .ok (.bipush (-2), 2) := by decide +kernel
theorem dX12_key_10 : decode cX12_key 10 = .ok (.ireturn, 1) := by decide +kernel
theorem dX12_key_11 : decode cX12_key 11 = .ok (.iload_n 2, 1) := by decide +kernel
theorem dX12_key_12 : decode cX12_key 12 = .ok (.tableswitch 104 0 6 #[44, 51, 58, 65, 74, 84, 90], 44) := by decide +kernel
theorem dX12_key_56 : decode cX12_key 56 = .ok (.aload_n 0, 1) := by decide +kernel
theorem dX12_key_57 : decode cX12_key 57 = .ok (.getfield 17, 3) := by decide +kernel
theorem dX12_key_60 : decode cX12_key 60 = .ok (.iload_n 1, 1) := by decide +kernel
theorem dX12_key_61 : decode cX12_key 61 = .ok (.iaload, 1) := by decide +kernel
theorem dX12_key_62 : decode cX12_key 62 = .ok (.ireturn, 1) := by decide +kernel
theorem dX12_key_63 : decode cX12_key 63 = .ok (.aload_n 0, 1) := by decide +kernel
theorem dX12_key_64 : decode cX12_key 64 = .ok (.getfield 20, 3) := by decide +kernel
theorem dX12_key_67 : decode cX12_key 67 = .ok (.iload_n 1, 1) := by decide +kernel
theorem dX12_key_68 : decode cX12_key 68 = .ok (.iaload, 1) := by decide +kernel
theorem dX12_key_69 : decode cX12_key 69 = .ok (.ireturn, 1) := by decide +kernel
theorem dX12_key_70 : decode cX12_key 70 = .ok (.aload_n 0, 1) := by decide +kernel
theorem dX12_key_71 : decode cX12_key 71 = .ok (.getfield 23, 3) := by decide +kernel
theorem dX12_key_74 : decode cX12_key 74 = .ok (.iload_n 1, 1) := by decide +kernel
theorem dX12_key_75 : decode cX12_key 75 = .ok (.iaload, 1) := by decide +kernel
theorem dX12_key_76 : decode cX12_key 76 = .ok (.ireturn, 1) := by decide +kernel
theorem dX12_key_77 : decode cX12_key 77 = .ok (.aload_n 0, 1) := by decide +kernel
theorem dX12_key_78 : decode cX12_key 78 = .ok (.getfield 7, 3) := by decide +kernel
theorem dX12_key_81 : decode cX12_key 81 = .ok (.iconst 3, 1) := by decide +kernel
theorem dX12_key_82 : decode cX12_key 82 = .ok (.iload_n 1, 1) := by decide +kernel
theorem dX12_key_83 : decode cX12_key 83 = .ok (.iadd, 1) := by decide +kernel
theorem dX12_key_84 : decode cX12_key 84 = .ok (.iaload, 1) := by decide +kernel
theorem dX12_key_85 : decode cX12_key 85 = .ok (.ireturn, 1) := by decide +kernel
theorem dX12_key_86 : decode cX12_key 86 = .ok (.aload_n 0, 1) := by decide +kernel
theorem dX12_key_87 : decode cX12_key 87 = .ok (.getfield 7, 3) := by decide +kernel
theorem dX12_key_90 : decode cX12_key 90 = .ok (.bipush 10, 2) := by decide +kernel
theorem dX12_key_92 : decode cX12_key 92 = .ok (.iload_n 1, 1) := by decide +kernel
theorem dX12_key_93 : decode cX12_key 93 = .ok (.iadd, 1) := by decide +kernel
theorem dX12_key_94 : decode cX12_key 94 = .ok (.iaload, 1) := by decide +kernel
theorem dX12_key_95 : decode cX12_key 95 = .ok (.ireturn, 1) := by decide +kernel
theorem dX12_key_96 : decode cX12_key 96 = .ok (.aload_n 0, 1) := by decide +kernel
theorem dX12_key_97 : decode cX12_key 97 = .ok (.iload_n 1, 1) := by decide +kernel
theorem dX12_key_98 : decode cX12_key 98 = .ok (.invokevirtual 231, 3) := by decide +kernel
theorem dX12_key_101 : decode cX12_key 101 = .ok (.ireturn, 1) := by decide +kernel
theorem dX12_key_102 : decode cX12_key 102 = .ok (.aload_n 0, 1) := by decide +kernel
theorem dX12_key_103 : decode cX12_key 103 = .ok (.iload_n 1, 1) := by decide +kernel
theorem dX12_key_104 : decode cX12_key 104 = .ok (.invokevirtual 240, 3) := by decide +kernel
theorem dX12_key_107 : decode cX12_key 107 = .ok (.ifCond .eq 7, 3) := by decide +kernel
theorem dX12_key_110 : decode cX12_key 110 = .ok (.iconst 1, 1) := by decide +kernel
theorem dX12_key_111 : decode cX12_key 111 = .ok (.goto 4, 3) := by decide +kernel
theorem dX12_key_114 : decode cX12_key 114 = .ok (.iconst 0, 1) := by decide +kernel
theorem dX12_key_115 : decode cX12_key 115 = .ok (.ireturn, 1) := by decide +kernel
theorem dX12_key_116 : decode cX12_key 116 = .ok (.bipush (-3), 2) := by decide +kernel
theorem dX12_key_118 : decode cX12_key 118 = .ok (.ireturn, 1) := by decide +kernel
set_option maxRecDepth 20000 in
theorem ggX12_lock_X12_isLock : GoodIn wsX12_lock wsX12_isLock := goodIn_r _ [10, 11, 12, 13, 9, 14, 15, 16, 17, 18, 19, 20, 21, 22, 23, 24, 25, 26, 27, 28, 29, 30, 31, 32, 33, 34, 35, 36, 37, 38, 39, 40, 41, 42, 43, 44, 45, 46, 47, 48, 49, 50, 51, 52, 53, 54, 55, 56, 57, 58, 59] rfl (by decide +kernel)
set_option maxRecDepth 20000 in
theorem gX12_lock_X12_isLock : GoodIn wsX12_lock (wsV RX12 243 RX12 yX12_isLock wsX12_isLock) := goodIn_app (goodIn_of _ (by decide +kernel)) ggX12_lock_X12_isLock
theorem dX12_lock_0 : decode cX12_lock 0 = .ok (.aload_n 0, 1) := by decide +kernel
theorem dX12_lock_1 : decode cX12_lock 1 = .ok (.iload_n 1, 1) := by decide +kernel
theorem dX12_lock_2 : decode cX12_lock 2 = .ok (.invokevirtual 243, 3) := by decide +kernel
theorem dX12_lock_5 : decode cX12_lock 5 = .ok (.ifCond .ne 6, 3) := by decide +kernel
theorem dX12_lock_8 : decode cX12_lock 8 = .ok (.bipush (-2), 2) := by decide +kernel
theorem dX12_lock_10 : decode cX12_lock 10 = .ok (.ireturn, 1) := by decide +kernel
theorem dX12_lock_11 : decode cX12_lock 11 = .ok (.iload_n 2, 1) := by decide +kernel
theorem dX12_lock_12 : decode cX12_lock 12 = .ok (.tableswitch 75 0 4 #[36, 43, 50, 57, 64], 36) := by decide +kernel
theorem dX12_lock_48 : decode cX12_lock 48 = .ok (.aload_n 0, 1) := by decide +kernel
theorem dX12_lock_49 : decode cX12_lock 49 = .ok (.getfield 26, 3) := by decide +kernel
theorem dX12_lock_52 : decode cX12_lock 52 = .ok (.iload_n 1, 1) := by decide +kernel
theorem dX12_lock_53 : decode cX12_lock 53 = .ok (.iaload, 1) := by decide +kernel
theorem dX12_lock_54 : decode cX12_lock 54 = .ok (.ireturn, 1) := by decide +kernel
theorem dX12_lock_55 : decode cX12_lock 55 = .ok (.aload_n 0, 1) := by decide +kernel
theorem dX12_lock_56 : decode cX12_lock 56 = .ok (.getfield 29, 3) := by decide +kernel
theorem dX12_lock_59 : decode cX12_lock 59 = .ok (.iload_n 1, 1) := by decide +kernel
theorem dX12_lock_60 : decode cX12_lock 60 = .ok (.iaload, 1) := by decide +kernel
theorem dX12_lock_61 : decode cX12_lock 61 = .ok (.ireturn, 1) := by decide +kernel
theorem dX12_lock_62 : decode cX12_lock 62 = .ok (.aload_n 0, 1) := by decide +kernel
theorem dX12_lock_63 : decode cX12_lock 63 = .ok (.getfield 32, 3) := by decide +kernel
theorem dX12_lock_66 : decode cX12_lock 66 = .ok (.iload_n 1, 1) := by decide +kernel
theorem dX12_lock_67 : decode cX12_lock 67 = .ok (.iaload, 1) := by decide +kernel
theorem dX12_lock_68 : decode cX12_lock 68 = .ok (.ireturn, 1) := by decide +kernel
theorem dX12_lock_69 : decode cX12_lock 69 = .ok (.aload_n 0, 1) := by decide +kernel
theorem dX12_lock_70 : decode cX12_lock 70 = .ok (.getfield 35, 3) := by decide +kernel
theorem dX12_lock_73 : decode cX12_lock 73 = .ok (.iload_n 1, 1) := by decide +kernel
theorem dX12_lock_74 : decode cX12_lock 74 = .ok (.iaload, 1) := by decide +kernel
theorem dX12_lock_75 : decode cX12_lock 75 = .ok (.ireturn, 1) := by decide +kernel
theorem dX12_lock_76 : decode cX12_lock 76 = .ok (.aload_n 0, 1) := by decide +kernel
theorem dX12_lock_77 : decode cX12_lock 77 = .ok (.getfield 7, 3) := by decide +kernel
theorem dX12_lock_80 : decode cX12_lock 80 = .ok (.iconst 2, 1) := by decide +kernel
theorem dX12_lock_81 : decode cX12_lock 81 = .ok (.iaload, 1) := by decide +kernel
theorem dX12_lock_82 : decode cX12_lock 82 = .ok (.iload_n 1, 1) := by decide +kernel
theorem dX12_lock_83 : decode cX12_lock 83 = .ok (.ishr, 1) := by decide +kernel
theorem dX12_lock_84 : decode cX12_lock 84 = .ok (.iconst 1, 1) := by decide +kernel
theorem dX12_lock_85 : decode cX12_lock 85 = .ok (.iand, 1) := by decide +kernel
theorem dX12_lock_86 : decode cX12_lock 86 = .ok (.ireturn, 1) := by decide +kernel
theorem dX12_lock_87 : decode cX12_lock 87 = .ok (.bipush (-3), 2) := by decide +kernel
theorem dX12_lock_89 : decode cX12_lock 89 = .ok (.ireturn, 1) := by decide +kernel
set_option maxRecDepth 20000 in
theorem ggX12_walker_X12_isWalker : GoodIn wsX12_walker wsX12_isWalker := goodIn_r _ [6, 7, 8, 9, 5, 10, 11, 12, 13, 14, 15, 16, 17, 18, 19, 20, 21, 22, 23, 24, 25, 26, 27, 28, 29, 30, 31, 32, 33, 34, 35, 36, 37, 38, 39, 40, 41, 42, 43, 44, 45, 46, 47, 48, 49, 50, 51, 52, 53, 54, 55] rfl (by decide +kernel)
set_option maxRecDepth 20000 in
theorem gX12_walker_X12_isWalker : GoodIn wsX12_walker (wsV RX12 246 RX12 yX12_isWalker wsX12_isWalker) := goodIn_app (goodIn_of _ (by decide +kernel)) ggX12_walker_X12_isWalker
theorem dX12_walker_0 : decode cX12_walker 0 = .ok (.aload_n 0, 1) := by decide +kernel
theorem dX12_walker_1 : decode cX12_walker 1 = .ok (.iload_n 1, 1) := by decide +kernel
theorem dX12_walker_2 : decode cX12_walker 2 = .ok (.invokevirtual 246, 3) := by decide +kernel
theorem dX12_walker_5 : decode cX12_walker 5 = .ok (.ifCond .ne 6, 3) := by decide +kernel
theorem dX12_walker_8 : decode cX12_walker 8 = .ok (.bipush (-2), 2) := by decide +kernel
theorem dX12_walker_10 : decode cX12_walker 10 = .ok (.ireturn, 1) := by decide +kernel
theorem dX12_walker_11 : decode cX12_walker 11 = .ok (.iload_n 2, 1) := by decide +kernel
theorem dX12_walker_12 : decode cX12_walker 12 = .ok (.ifCond .ne 15, 3) := by decide +kernel
theorem dX12_walker_15 : decode cX12_walker 15 = .ok (.aload_n 0, 1) := by decide +kernel
theorem dX12_walker_16 : decode cX12_walker 16 = .ok (.getfield 7, 3) := by decide +kernel
theorem dX12_walker_19 : decode cX12_walker 19 = .ok (.bipush 17, 2) := by decide +kernel
theorem dX12_walker_21 : decode cX12_walker 21 = .ok (.iload_n 1, 1) := by decide +kernel
theorem dX12_walker_22 : decode cX12_walker 22 = .ok (.iadd, 1) := by decide +kernel
theorem dX12_walker_23 : decode cX12_walker 23 = .ok (.iaload, 1) := by decide +kernel
theorem dX12_walker_24 : decode cX12_walker 24 = .ok (.goto 22, 3) := by decide +kernel
theorem dX12_walker_27 : decode cX12_walker 27 = .ok (.iload_n 2, 1) := by decide +kernel
theorem dX12_walker_28 : decode cX12_walker 28 = .ok (.iconst 1, 1) := by decide +kernel
theorem dX12_walker_29 : decode cX12_walker 29 = .ok (.if_icmp .ne 15, 3) := by decide +kernel
theorem dX12_walker_32 : decode cX12_walker 32 = .ok (.aload_n 0, 1) := by decide +kernel
theorem dX12_walker_33 : decode cX12_walker 33 = .ok (.getfield 7, 3) := by decide +kernel
theorem dX12_walker_36 : decode cX12_walker 36 = .ok (.bipush 20, 2) := by decide +kernel
theorem dX12_walker_38 : decode cX12_walker 38 = .ok (.iload_n 1, 1) := by decide +kernel
theorem dX12_walker_39 : decode cX12_walker 39 = .ok (.iadd, 1) := by decide +kernel
theorem dX12_walker_40 : decode cX12_walker 40 = .ok (.iaload, 1) := by decide +kernel
theorem dX12_walker_41 : decode cX12_walker 41 = .ok (.goto 5, 3) := by decide +kernel
theorem dX12_walker_44 : decode cX12_walker 44 = .ok (.bipush (-3), 2) := by decide +kernel
theorem dX12_walker_46 : decode cX12_walker 46 = .ok (.ireturn, 1) := by decide +kernel
set_option maxRecDepth 20000 in
theorem ggX12_goes_X12_isKey : GoodIn wsX12_goes wsX12_isKey := goodIn_r _ [6, 7, 8, 9, 5, 10, 48, 49, 50, 51, 52, 53, 54, 55, 56, 57, 58, 59, 60, 61, 62, 63, 64, 65, 66, 67, 68, 69, 70, 71, 72, 73, 74, 75, 76, 77, 78, 79, 80, 81, 82, 83, 84, 85, 86, 87, 88, 89, 90, 91, 92] rfl (by decide +kernel)
set_option maxRecDepth 20000 in
theorem gX12_goes_X12_isKey : GoodIn wsX12_goes (wsV RX12 237 RX12 yX12_isKey wsX12_isKey) := goodIn_app (goodIn_of _ (by decide +kernel)) ggX12_goes_X12_isKey
set_option maxRecDepth 20000 in
theorem ggX12_goes_X12_isLock : GoodIn wsX12_goes wsX12_isLock := goodIn_r _ [14, 15, 8, 9, 5, 10, 48, 49, 50, 51, 52, 53, 54, 55, 56, 57, 58, 59, 60, 61, 62, 63, 64, 65, 66, 67, 68, 69, 70, 71, 72, 73, 74, 75, 76, 77, 78, 79, 80, 81, 82, 83, 84, 85, 86, 87, 88, 89, 90, 91, 92] rfl (by decide +kernel)
set_option maxRecDepth 20000 in
theorem gX12_goes_X12_isLock : GoodIn wsX12_goes (wsV RX12 243 RX12 yX12_isLock wsX12_isLock) := goodIn_app (goodIn_of _ (by decide +kernel)) ggX12_goes_X12_isLock
set_option maxRecDepth 20000 in
theorem ggX12_goes_X12_edge : GoodIn wsX12_goes wsX12_edge := goodIn_r _ [19, 20, 21, 22, 23, 24, 25, 5, 26, 27, 28, 29, 30, 31, 32, 48, 49, 50, 51, 52, 53, 54, 55, 56, 57, 58, 59, 60, 61, 62, 63, 64, 65, 66, 67, 68, 69, 70, 71, 72, 73, 74, 75, 76, 77, 78, 79, 80, 81, 82, 83, 84, 85, 86, 87, 88, 89, 90, 91, 92] rfl (by decide +kernel)
set_option maxRecDepth 20000 in
theorem gX12_goes_X12_edge : GoodIn wsX12_goes (wsV RX12 231 RX12 yX12_edge wsX12_edge) := goodIn_app (goodIn_of _ (by decide +kernel)) ggX12_goes_X12_edge
set_option maxRecDepth 20000 in
theorem ggX12_goes_X12_bits : GoodIn wsX12_goes wsX12_bits := goodIn_r _ [35] rfl (by decide +kernel)
set_option maxRecDepth 20000 in
theorem gX12_goes_X12_bits : GoodIn wsX12_goes (va_wsS RX12 223 yX12_bits wsX12_bits) := goodIn_app (goodIn_of _ (by decide +kernel)) ggX12_goes_X12_bits
set_option maxRecDepth 20000 in
theorem ggX12_goes_X12_doesGo : GoodIn wsX12_goes wsX12_doesGo := goodIn_r _ [39, 20, 16, 17, 18, 5, 19, 21, 22, 23, 24, 25, 26, 27, 28, 29, 30, 31, 32, 40, 41, 42, 43, 1, 44, 33, 34, 35, 45, 46, 47, 48, 49, 50, 51, 52, 53, 54, 55, 56, 57, 58, 59, 60, 61, 62, 63, 64, 65, 66, 67, 68, 69, 70, 71, 72, 73, 74, 75, 76, 77, 78, 79, 80, 81, 82, 83, 84, 85, 86, 87, 88, 89, 90, 91, 92] rfl (by decide +kernel)
set_option maxRecDepth 20000 in
theorem gX12_goes_X12_doesGo : GoodIn wsX12_goes (wsV RX12 249 RX12 yX12_doesGo wsX12_doesGo) := goodIn_app (goodIn_of _ (by decide +kernel)) ggX12_goes_X12_doesGo
theorem dX12_goes_0 : decode cX12_goes 0 = .ok (.aload_n 0, 1) := by decide +kernel
theorem dX12_goes_1 : decode cX12_goes 1 = .ok (.iload_n 1, 1) := by decide +kernel
theorem dX12_goes_2 : decode cX12_goes 2 = .ok (.invokevirtual 237, 3) := by decide +kernel
theorem dX12_goes_5 : decode cX12_goes 5 = .ok (.ifCond .eq 11, 3) := by decide +kernel
theorem dX12_goes_8 : decode cX12_goes 8 = .ok (.aload_n 0, 1) := by decide +kernel
theorem dX12_goes_9 : decode cX12_goes 9 = .ok (.iload_n 2, 1) := by decide +kernel
theorem dX12_goes_10 : decode cX12_goes 10 = .ok (.invokevirtual 243, 3) := by decide +kernel
theorem dX12_goes_13 : decode cX12_goes 13 = .ok (.ifCond .ne 6, 3) := by decide +kernel
theorem dX12_goes_16 : decode cX12_goes 16 = .ok (.bipush (-2), 2) := by decide +kernel
theorem dX12_goes_18 : decode cX12_goes 18 = .ok (.ireturn, 1) := by decide +kernel
theorem dX12_goes_19 : decode cX12_goes 19 = .ok (.iload_n 3, 1) := by decide +kernel
theorem dX12_goes_20 : decode cX12_goes 20 = .ok (.tableswitch 79 0 2 #[28, 46, 64], 28) := by decide +kernel
theorem dX12_goes_48 : decode cX12_goes 48 = .ok (.aload_n 0, 1) := by decide +kernel
theorem dX12_goes_49 : decode cX12_goes 49 = .ok (.getfield 29, 3) := by decide +kernel
theorem dX12_goes_52 : decode cX12_goes 52 = .ok (.iload_n 2, 1) := by decide +kernel
theorem dX12_goes_53 : decode cX12_goes 53 = .ok (.iaload, 1) := by decide +kernel
theorem dX12_goes_54 : decode cX12_goes 54 = .ok (.aload_n 0, 1) := by decide +kernel
theorem dX12_goes_55 : decode cX12_goes 55 = .ok (.iload_n 1, 1) := by decide +kernel
theorem dX12_goes_56 : decode cX12_goes 56 = .ok (.invokevirtual 231, 3) := by decide +kernel
theorem dX12_goes_59 : decode cX12_goes 59 = .ok (.iconst (-1), 1) := by decide +kernel
theorem dX12_goes_60 : decode cX12_goes 60 = .ok (.ixor, 1) := by decide +kernel
theorem dX12_goes_61 : decode cX12_goes 61 = .ok (.iand, 1) := by decide +kernel
theorem dX12_goes_62 : decode cX12_goes 62 = .ok (.invokestatic 223, 3) := by decide +kernel
theorem dX12_goes_65 : decode cX12_goes 65 = .ok (.ireturn, 1) := by decide +kernel
theorem dX12_goes_66 : decode cX12_goes 66 = .ok (.aload_n 0, 1) := by decide +kernel
theorem dX12_goes_67 : decode cX12_goes 67 = .ok (.iload_n 1, 1) := by decide +kernel
theorem dX12_goes_68 : decode cX12_goes 68 = .ok (.invokevirtual 231, 3) := by decide +kernel
theorem dX12_goes_71 : decode cX12_goes 71 = .ok (.aload_n 0, 1) := by decide +kernel
theorem dX12_goes_72 : decode cX12_goes 72 = .ok (.getfield 29, 3) := by decide +kernel
theorem dX12_goes_75 : decode cX12_goes 75 = .ok (.iload_n 2, 1) := by decide +kernel
theorem dX12_goes_76 : decode cX12_goes 76 = .ok (.iaload, 1) := by decide +kernel
theorem dX12_goes_77 : decode cX12_goes 77 = .ok (.iconst (-1), 1) := by decide +kernel
theorem dX12_goes_78 : decode cX12_goes 78 = .ok (.ixor, 1) := by decide +kernel
theorem dX12_goes_79 : decode cX12_goes 79 = .ok (.iand, 1) := by decide +kernel
theorem dX12_goes_80 : decode cX12_goes 80 = .ok (.invokestatic 223, 3) := by decide +kernel
theorem dX12_goes_83 : decode cX12_goes 83 = .ok (.ireturn, 1) := by decide +kernel
theorem dX12_goes_84 : decode cX12_goes 84 = .ok (.aload_n 0, 1) := by decide +kernel
theorem dX12_goes_85 : decode cX12_goes 85 = .ok (.iload_n 1, 1) := by decide +kernel
theorem dX12_goes_86 : decode cX12_goes 86 = .ok (.iload_n 2, 1) := by decide +kernel
theorem dX12_goes_87 : decode cX12_goes 87 = .ok (.invokevirtual 249, 3) := by decide +kernel
theorem dX12_goes_90 : decode cX12_goes 90 = .ok (.ifCond .eq 7, 3) := by decide +kernel
theorem dX12_goes_93 : decode cX12_goes 93 = .ok (.iconst 1, 1) := by decide +kernel
theorem dX12_goes_94 : decode cX12_goes 94 = .ok (.goto 4, 3) := by decide +kernel
theorem dX12_goes_97 : decode cX12_goes 97 = .ok (.iconst 0, 1) := by decide +kernel
theorem dX12_goes_98 : decode cX12_goes 98 = .ok (.ireturn, 1) := by decide +kernel
theorem dX12_goes_99 : decode cX12_goes 99 = .ok (.bipush (-3), 2) := by decide +kernel
theorem dX12_goes_101 : decode cX12_goes 101 = .ok (.ireturn, 1) := by decide +kernel
set_option maxRecDepth 20000 in
theorem ggX12_as_X12_isKey : GoodIn wsX12_as wsX12_isKey := goodIn_r _ [7, 8, 9, 10, 6, 11, 15, 16, 17, 18, 19, 20, 21, 22, 23, 24, 25, 26, 27, 28, 29, 30, 31, 32, 33, 34, 35, 36, 37, 38, 39, 40, 41, 42, 43, 44, 45, 46, 47, 48, 49, 50, 51, 52, 53, 54, 55, 56, 57, 58, 59] rfl (by decide +kernel)
set_option maxRecDepth 20000 in
theorem gX12_as_X12_isKey : GoodIn wsX12_as (wsV RX12 237 RX12 yX12_isKey wsX12_isKey) := goodIn_app (goodIn_of _ (by decide +kernel)) ggX12_as_X12_isKey
set_option maxRecDepth 20000 in
theorem ggX12_as_X12_in : GoodIn wsX12_as wsX12_in := goodIn_r _ [11] rfl (by decide +kernel)
set_option maxRecDepth 20000 in
theorem gX12_as_X12_in : GoodIn wsX12_as (va_wsS RX12 111 yX12_in wsX12_in) := goodIn_app (goodIn_of _ (by decide +kernel)) ggX12_as_X12_in
set_option maxRecDepth 20000 in
theorem ggX12_as_X12_roomBy : GoodIn wsX12_as wsX12_roomBy := goodIn_r _ [14] rfl (by decide +kernel)
set_option maxRecDepth 20000 in
theorem gX12_as_X12_roomBy : GoodIn wsX12_as (va_wsS RX12 227 yX12_roomBy wsX12_roomBy) := goodIn_app (goodIn_of _ (by decide +kernel)) ggX12_as_X12_roomBy
theorem dX12_as_0 : decode cX12_as 0 = .ok (.aload_n 0, 1) := by decide +kernel
theorem dX12_as_1 : decode cX12_as 1 = .ok (.iload_n 1, 1) := by decide +kernel
theorem dX12_as_2 : decode cX12_as 2 = .ok (.invokevirtual 237, 3) := by decide +kernel
theorem dX12_as_5 : decode cX12_as 5 = .ok (.ifCond .ne 6, 3) := by decide +kernel
theorem dX12_as_8 : decode cX12_as 8 = .ok (.bipush (-2), 2) := by decide +kernel
theorem dX12_as_10 : decode cX12_as 10 = .ok (.ireturn, 1) := by decide +kernel
theorem dX12_as_11 : decode cX12_as 11 = .ok (.iload_n 2, 1) := by decide +kernel
theorem dX12_as_12 : decode cX12_as 12 = .ok (.i2l, 1) := by decide +kernel
theorem dX12_as_13 : decode cX12_as 13 = .ok (.lconst 0, 1) := by decide +kernel
theorem dX12_as_14 : decode cX12_as 14 = .ok (.ldc2_w 252, 3) := by decide +kernel
theorem dX12_as_17 : decode cX12_as 17 = .ok (.invokestatic 111, 3) := by decide +kernel
theorem dX12_as_20 : decode cX12_as 20 = .ok (.ifCond .ne 6, 3) := by decide +kernel
theorem dX12_as_23 : decode cX12_as 23 = .ok (.bipush (-3), 2) := by decide +kernel
theorem dX12_as_25 : decode cX12_as 25 = .ok (.ireturn, 1) := by decide +kernel
theorem dX12_as_26 : decode cX12_as 26 = .ok (.iload_n 2, 1) := by decide +kernel
theorem dX12_as_27 : decode cX12_as 27 = .ok (.ifCond .eq 30, 3) := by decide +kernel
theorem dX12_as_30 : decode cX12_as 30 = .ok (.iload_n 2, 1) := by decide +kernel
theorem dX12_as_31 : decode cX12_as 31 = .ok (.aload_n 0, 1) := by decide +kernel
theorem dX12_as_32 : decode cX12_as 32 = .ok (.getfield 17, 3) := by decide +kernel
theorem dX12_as_35 : decode cX12_as 35 = .ok (.iload_n 1, 1) := by decide +kernel
theorem dX12_as_36 : decode cX12_as 36 = .ok (.iaload, 1) := by decide +kernel
theorem dX12_as_37 : decode cX12_as 37 = .ok (.iconst 1, 1) := by decide +kernel
theorem dX12_as_38 : decode cX12_as 38 = .ok (.iadd, 1) := by decide +kernel
theorem dX12_as_39 : decode cX12_as 39 = .ok (.if_icmp .eq 18, 3) := by decide +kernel
theorem dX12_as_42 : decode cX12_as 42 = .ok (.iload_n 2, 1) := by decide +kernel
theorem dX12_as_43 : decode cX12_as 43 = .ok (.iconst 1, 1) := by decide +kernel
theorem dX12_as_44 : decode cX12_as 44 = .ok (.if_icmp .ne 17, 3) := by decide +kernel
theorem dX12_as_47 : decode cX12_as 47 = .ok (.aload_n 0, 1) := by decide +kernel
theorem dX12_as_48 : decode cX12_as 48 = .ok (.getfield 17, 3) := by decide +kernel
theorem dX12_as_51 : decode cX12_as 51 = .ok (.iload_n 1, 1) := by decide +kernel
theorem dX12_as_52 : decode cX12_as 52 = .ok (.iaload, 1) := by decide +kernel
theorem dX12_as_53 : decode cX12_as 53 = .ok (.iconst 3, 1) := by decide +kernel
theorem dX12_as_54 : decode cX12_as 54 = .ok (.if_icmp .eq 7, 3) := by decide +kernel
theorem dX12_as_57 : decode cX12_as 57 = .ok (.iconst 1, 1) := by decide +kernel
theorem dX12_as_58 : decode cX12_as 58 = .ok (.goto 4, 3) := by decide +kernel
theorem dX12_as_61 : decode cX12_as 61 = .ok (.iconst 0, 1) := by decide +kernel
theorem dX12_as_62 : decode cX12_as 62 = .ok (.istore_n 3, 1) := by decide +kernel
theorem dX12_as_63 : decode cX12_as 63 = .ok (.iload_n 3, 1) := by decide +kernel
theorem dX12_as_64 : decode cX12_as 64 = .ok (.ifCond .eq 16, 3) := by decide +kernel
theorem dX12_as_67 : decode cX12_as 67 = .ok (.aload_n 0, 1) := by decide +kernel
theorem dX12_as_68 : decode cX12_as 68 = .ok (.getfield 17, 3) := by decide +kernel
theorem dX12_as_71 : decode cX12_as 71 = .ok (.iload_n 1, 1) := by decide +kernel
theorem dX12_as_72 : decode cX12_as 72 = .ok (.iaload, 1) := by decide +kernel
theorem dX12_as_73 : decode cX12_as 73 = .ok (.iconst 3, 1) := by decide +kernel
theorem dX12_as_74 : decode cX12_as 74 = .ok (.invokestatic 227, 3) := by decide +kernel
theorem dX12_as_77 : decode cX12_as 77 = .ok (.goto 5, 3) := by decide +kernel
theorem dX12_as_80 : decode cX12_as 80 = .ok (.bipush (-4), 2) := by decide +kernel
theorem dX12_as_82 : decode cX12_as 82 = .ok (.ireturn, 1) := by decide +kernel
theorem dX12_keepPast_0 : decode cX12_keepPast 0 = .ok (.aload_n 0, 1) := by decide +kernel
theorem dX12_keepPast_1 : decode cX12_keepPast 1 = .ok (.getfield 205, 3) := by decide +kernel
theorem dX12_keepPast_4 : decode cX12_keepPast 4 = .ok (.bipush 8, 2) := by decide +kernel
theorem dX12_keepPast_6 : decode cX12_keepPast 6 = .ok (.if_icmp .ne 46, 3) := by decide +kernel
theorem dX12_keepPast_9 : decode cX12_keepPast 9 = .ok (.iconst 0, 1) := by decide +kernel
theorem dX12_keepPast_10 : decode cX12_keepPast 10 = .ok (.istore_n 1, 1) := by decide +kernel
theorem dX12_keepPast_11 : decode cX12_keepPast 11 = .ok (.iload_n 1, 1) := by decide +kernel
theorem dX12_keepPast_12 : decode cX12_keepPast 12 = .ok (.sipush 161, 3) := by decide +kernel
theorem dX12_keepPast_15 : decode cX12_keepPast 15 = .ok (.if_icmp .ge 27, 3) := by decide +kernel
theorem dX12_keepPast_18 : decode cX12_keepPast 18 = .ok (.aload_n 0, 1) := by decide +kernel
theorem dX12_keepPast_19 : decode cX12_keepPast 19 = .ok (.getfield 7, 3) := by decide +kernel
theorem dX12_keepPast_22 : decode cX12_keepPast 22 = .ok (.bipush 23, 2) := by decide +kernel
theorem dX12_keepPast_24 : decode cX12_keepPast 24 = .ok (.iload_n 1, 1) := by decide +kernel
theorem dX12_keepPast_25 : decode cX12_keepPast 25 = .ok (.iadd, 1) := by decide +kernel
theorem dX12_keepPast_26 : decode cX12_keepPast 26 = .ok (.aload_n 0, 1) := by decide +kernel
theorem dX12_keepPast_27 : decode cX12_keepPast 27 = .ok (.getfield 7, 3) := by decide +kernel
theorem dX12_keepPast_30 : decode cX12_keepPast 30 = .ok (.bipush 46, 2) := by decide +kernel
theorem dX12_keepPast_32 : decode cX12_keepPast 32 = .ok (.iload_n 1, 1) := by decide +kernel
theorem dX12_keepPast_33 : decode cX12_keepPast 33 = .ok (.iadd, 1) := by decide +kernel
theorem dX12_keepPast_34 : decode cX12_keepPast 34 = .ok (.iaload, 1) := by decide +kernel
theorem dX12_keepPast_35 : decode cX12_keepPast 35 = .ok (.iastore, 1) := by decide +kernel
theorem dX12_keepPast_36 : decode cX12_keepPast 36 = .ok (.iinc 1 1, 3) := by decide +kernel
theorem dX12_keepPast_39 : decode cX12_keepPast 39 = .ok (.goto (-28), 3) := by decide +kernel
theorem dX12_keepPast_42 : decode cX12_keepPast 42 = .ok (.aload_n 0, 1) := by decide +kernel
theorem dX12_keepPast_43 : decode cX12_keepPast 43 = .ok (.dup, 1) := by decide +kernel
theorem dX12_keepPast_44 : decode cX12_keepPast 44 = .ok (.getfield 205, 3) := by decide +kernel
theorem dX12_keepPast_47 : decode cX12_keepPast 47 = .ok (.iconst 1, 1) := by decide +kernel
theorem dX12_keepPast_48 : decode cX12_keepPast 48 = .ok (.isub, 1) := by decide +kernel
theorem dX12_keepPast_49 : decode cX12_keepPast 49 = .ok (.putfield 205, 3) := by decide +kernel
theorem dX12_keepPast_52 : decode cX12_keepPast 52 = .ok (.iconst 0, 1) := by decide +kernel
theorem dX12_keepPast_53 : decode cX12_keepPast 53 = .ok (.istore_n 1, 1) := by decide +kernel
theorem dX12_keepPast_54 : decode cX12_keepPast 54 = .ok (.iload_n 1, 1) := by decide +kernel
theorem dX12_keepPast_55 : decode cX12_keepPast 55 = .ok (.bipush 23, 2) := by decide +kernel
theorem dX12_keepPast_57 : decode cX12_keepPast 57 = .ok (.if_icmp .ge 32, 3) := by decide +kernel
theorem dX12_keepPast_60 : decode cX12_keepPast 60 = .ok (.aload_n 0, 1) := by decide +kernel
theorem dX12_keepPast_61 : decode cX12_keepPast 61 = .ok (.getfield 7, 3) := by decide +kernel
theorem dX12_keepPast_64 : decode cX12_keepPast 64 = .ok (.bipush 23, 2) := by decide +kernel
theorem dX12_keepPast_66 : decode cX12_keepPast 66 = .ok (.bipush 23, 2) := by decide +kernel
theorem dX12_keepPast_68 : decode cX12_keepPast 68 = .ok (.aload_n 0, 1) := by decide +kernel
theorem dX12_keepPast_69 : decode cX12_keepPast 69 = .ok (.getfield 205, 3) := by decide +kernel
theorem dX12_keepPast_72 : decode cX12_keepPast 72 = .ok (.imul, 1) := by decide +kernel
theorem dX12_keepPast_73 : decode cX12_keepPast 73 = .ok (.iadd, 1) := by decide +kernel
theorem dX12_keepPast_74 : decode cX12_keepPast 74 = .ok (.iload_n 1, 1) := by decide +kernel
theorem dX12_keepPast_75 : decode cX12_keepPast 75 = .ok (.iadd, 1) := by decide +kernel
theorem dX12_keepPast_76 : decode cX12_keepPast 76 = .ok (.aload_n 0, 1) := by decide +kernel
theorem dX12_keepPast_77 : decode cX12_keepPast 77 = .ok (.getfield 7, 3) := by decide +kernel
theorem dX12_keepPast_80 : decode cX12_keepPast 80 = .ok (.iload_n 1, 1) := by decide +kernel
theorem dX12_keepPast_81 : decode cX12_keepPast 81 = .ok (.iaload, 1) := by decide +kernel
theorem dX12_keepPast_82 : decode cX12_keepPast 82 = .ok (.iastore, 1) := by decide +kernel
theorem dX12_keepPast_83 : decode cX12_keepPast 83 = .ok (.iinc 1 1, 3) := by decide +kernel
theorem dX12_keepPast_86 : decode cX12_keepPast 86 = .ok (.goto (-32), 3) := by decide +kernel
theorem dX12_keepPast_89 : decode cX12_keepPast 89 = .ok (.aload_n 0, 1) := by decide +kernel
theorem dX12_keepPast_90 : decode cX12_keepPast 90 = .ok (.dup, 1) := by decide +kernel
theorem dX12_keepPast_91 : decode cX12_keepPast 91 = .ok (.getfield 205, 3) := by decide +kernel
theorem dX12_keepPast_94 : decode cX12_keepPast 94 = .ok (.iconst 1, 1) := by decide +kernel
theorem dX12_keepPast_95 : decode cX12_keepPast 95 = .ok (.iadd, 1) := by decide +kernel
theorem dX12_keepPast_96 : decode cX12_keepPast 96 = .ok (.putfield 205, 3) := by decide +kernel
theorem dX12_keepPast_99 : decode cX12_keepPast 99 = .ok (.return_, 1) := by decide +kernel
set_option maxRecDepth 20000 in
theorem ggX12_tries_X12_isWalker : GoodIn wsX12_tries wsX12_isWalker := goodIn_r _ [11, 12, 13, 14, 10, 15, 72, 73, 74, 75, 76, 77, 78, 79, 80, 81, 82, 83, 84, 85, 86, 87, 88, 89, 90, 91, 92, 93, 94, 95, 96, 97, 98, 99, 100, 101, 102, 103, 104, 105, 106, 107, 108, 109, 110, 111, 112, 113, 114, 115, 116] rfl (by decide +kernel)
set_option maxRecDepth 20000 in
theorem gX12_tries_X12_isWalker : GoodIn wsX12_tries (wsV RX12 246 RX12 yX12_isWalker wsX12_isWalker) := goodIn_app (goodIn_of _ (by decide +kernel)) ggX12_tries_X12_isWalker
set_option maxRecDepth 20000 in
theorem ggX12_tries_X12_isKey : GoodIn wsX12_tries wsX12_isKey := goodIn_r _ [19, 20, 13, 14, 10, 15, 72, 73, 74, 75, 76, 77, 78, 79, 80, 81, 82, 83, 84, 85, 86, 87, 88, 89, 90, 91, 92, 93, 94, 95, 96, 97, 98, 99, 100, 101, 102, 103, 104, 105, 106, 107, 108, 109, 110, 111, 112, 113, 114, 115, 116] rfl (by decide +kernel)
set_option maxRecDepth 20000 in
theorem gX12_tries_X12_isKey : GoodIn wsX12_tries (wsV RX12 237 RX12 yX12_isKey wsX12_isKey) := goodIn_app (goodIn_of _ (by decide +kernel)) ggX12_tries_X12_isKey
set_option maxRecDepth 20000 in
theorem ggX12_tries_X12_isLock : GoodIn wsX12_tries wsX12_isLock := goodIn_r _ [24, 25, 13, 14, 10, 15, 72, 73, 74, 75, 76, 77, 78, 79, 80, 81, 82, 83, 84, 85, 86, 87, 88, 89, 90, 91, 92, 93, 94, 95, 96, 97, 98, 99, 100, 101, 102, 103, 104, 105, 106, 107, 108, 109, 110, 111, 112, 113, 114, 115, 116] rfl (by decide +kernel)
set_option maxRecDepth 20000 in
theorem gX12_tries_X12_isLock : GoodIn wsX12_tries (wsV RX12 243 RX12 yX12_isLock wsX12_isLock) := goodIn_app (goodIn_of _ (by decide +kernel)) ggX12_tries_X12_isLock
set_option maxRecDepth 20000 in
theorem ggX12_tries_X12_apart : GoodIn wsX12_tries wsX12_apart := goodIn_r _ [28] rfl (by decide +kernel)
set_option maxRecDepth 20000 in
theorem gX12_tries_X12_apart : GoodIn wsX12_tries (va_wsS RX12 254 yX12_apart wsX12_apart) := goodIn_app (goodIn_of _ (by decide +kernel)) ggX12_tries_X12_apart
set_option maxRecDepth 20000 in
theorem ggX12_tries_X12_isBroken : GoodIn wsX12_tries wsX12_isBroken := goodIn_r _ [32, 1, 72, 73, 74, 75, 76, 77, 78, 79, 80, 81, 82, 83, 84, 85, 86, 87, 88, 89, 90, 91, 92, 93, 94, 95, 96, 97, 98, 99, 100, 101, 102, 103, 104, 105, 106, 107, 108, 109, 110, 111, 112, 113, 114, 115, 116] rfl (by decide +kernel)
set_option maxRecDepth 20000 in
theorem gX12_tries_X12_isBroken : GoodIn wsX12_tries (wsV RX12 240 RX12 yX12_isBroken wsX12_isBroken) := goodIn_app (goodIn_of _ (by decide +kernel)) ggX12_tries_X12_isBroken
set_option maxRecDepth 20000 in
theorem ggX12_tries_X12_isOpen : GoodIn wsX12_tries wsX12_isOpen := goodIn_r _ [36, 1, 37, 38, 10, 39, 72, 73, 74, 75, 76, 77, 78, 79, 80, 81, 82, 83, 84, 85, 86, 87, 88, 89, 90, 91, 92, 93, 94, 95, 96, 97, 98, 99, 100, 101, 102, 103, 104, 105, 106, 107, 108, 109, 110, 111, 112, 113, 114, 115, 116] rfl (by decide +kernel)
set_option maxRecDepth 20000 in
theorem gX12_tries_X12_isOpen : GoodIn wsX12_tries (wsV RX12 257 RX12 yX12_isOpen wsX12_isOpen) := goodIn_app (goodIn_of _ (by decide +kernel)) ggX12_tries_X12_isOpen
set_option maxRecDepth 20000 in
theorem ggX12_tries_X12_keepPast : GoodIn wsX12_tries wsX12_keepPast := goodIn_r _ [43, 44, 1, 72, 73, 74, 75, 76, 77, 78, 79, 80, 81, 82, 83, 84, 85, 86, 87, 88, 89, 90, 91, 92, 93, 94, 95, 96, 97, 98, 99, 100, 101, 102, 103, 104, 105, 106, 107, 108, 109, 110, 111, 112, 113, 114, 115, 116] rfl (by decide +kernel)
set_option maxRecDepth 20000 in
theorem gX12_tries_X12_keepPast : GoodIn wsX12_tries (wsV RX12 260 RX12 yX12_keepPast wsX12_keepPast) := goodIn_app (goodIn_of _ (by decide +kernel)) ggX12_tries_X12_keepPast
set_option maxRecDepth 20000 in
theorem ggX12_tries_X12_doesGo : GoodIn wsX12_tries wsX12_doesGo := goodIn_r _ [48, 5, 49, 50, 51, 10, 52, 53, 54, 1, 55, 56, 57, 58, 59, 60, 37, 38, 39, 61, 62, 63, 64, 6, 65, 66, 67, 68, 69, 70, 71, 72, 73, 74, 75, 76, 77, 78, 79, 80, 81, 82, 83, 84, 85, 86, 87, 88, 89, 90, 91, 92, 93, 94, 95, 96, 97, 98, 99, 100, 101, 102, 103, 104, 105, 106, 107, 108, 109, 110, 111, 112, 113, 114, 115, 116] rfl (by decide +kernel)
set_option maxRecDepth 20000 in
theorem gX12_tries_X12_doesGo : GoodIn wsX12_tries (wsV RX12 249 RX12 yX12_doesGo wsX12_doesGo) := goodIn_app (goodIn_of _ (by decide +kernel)) ggX12_tries_X12_doesGo
set_option maxRecDepth 20000 in
theorem ggX12_tries_X12_edge : GoodIn wsX12_tries wsX12_edge := goodIn_r _ [52, 5, 53, 54, 1, 55, 56, 10, 57, 58, 59, 60, 37, 38, 39, 72, 73, 74, 75, 76, 77, 78, 79, 80, 81, 82, 83, 84, 85, 86, 87, 88, 89, 90, 91, 92, 93, 94, 95, 96, 97, 98, 99, 100, 101, 102, 103, 104, 105, 106, 107, 108, 109, 110, 111, 112, 113, 114, 115, 116] rfl (by decide +kernel)
set_option maxRecDepth 20000 in
theorem gX12_tries_X12_edge : GoodIn wsX12_tries (wsV RX12 231 RX12 yX12_edge wsX12_edge) := goodIn_app (goodIn_of _ (by decide +kernel)) ggX12_tries_X12_edge
set_option maxRecDepth 20000 in
theorem ggX12_tries_X12_bits : GoodIn wsX12_tries wsX12_bits := goodIn_r _ [68] rfl (by decide +kernel)
set_option maxRecDepth 20000 in
theorem gX12_tries_X12_bits : GoodIn wsX12_tries (va_wsS RX12 223 yX12_bits wsX12_bits) := goodIn_app (goodIn_of _ (by decide +kernel)) ggX12_tries_X12_bits
theorem dX12_tries_0 : decode cX12_tries 0 = .ok (.aload_n 0, 1) := by decide +kernel
theorem dX12_tries_1 : decode cX12_tries 1 = .ok (.iload_n 1, 1) := by decide +kernel
theorem dX12_tries_2 : decode cX12_tries 2 = .ok (.invokevirtual 246, 3) := by decide +kernel
theorem dX12_tries_5 : decode cX12_tries 5 = .ok (.ifCond .eq 19, 3) := by decide +kernel
theorem dX12_tries_8 : decode cX12_tries 8 = .ok (.aload_n 0, 1) := by decide +kernel
theorem dX12_tries_9 : decode cX12_tries 9 = .ok (.iload_n 2, 1) := by decide +kernel
theorem dX12_tries_10 : decode cX12_tries 10 = .ok (.invokevirtual 237, 3) := by decide +kernel
theorem dX12_tries_13 : decode cX12_tries 13 = .ok (.ifCond .eq 11, 3) := by decide +kernel
theorem dX12_tries_16 : decode cX12_tries 16 = .ok (.aload_n 0, 1) := by decide +kernel
theorem dX12_tries_17 : decode cX12_tries 17 = .ok (.iload_n 3, 1) := by decide +kernel
theorem dX12_tries_18 : decode cX12_tries 18 = .ok (.invokevirtual 243, 3) := by decide +kernel
theorem dX12_tries_21 : decode cX12_tries 21 = .ok (.ifCond .ne 6, 3) := by decide +kernel
theorem dX12_tries_24 : decode cX12_tries 24 = .ok (.bipush (-2), 2) := by decide +kernel
theorem dX12_tries_26 : decode cX12_tries 26 = .ok (.ireturn, 1) := by decide +kernel
theorem dX12_tries_27 : decode cX12_tries 27 = .ok (.aload_n 0, 1) := by decide +kernel
theorem dX12_tries_28 : decode cX12_tries 28 = .ok (.getfield 7, 3) := by decide +kernel
theorem dX12_tries_31 : decode cX12_tries 31 = .ok (.bipush 20, 2) := by decide +kernel
theorem dX12_tries_33 : decode cX12_tries 33 = .ok (.iload_n 1, 1) := by decide +kernel
theorem dX12_tries_34 : decode cX12_tries 34 = .ok (.iadd, 1) := by decide +kernel
theorem dX12_tries_35 : decode cX12_tries 35 = .ok (.iaload, 1) := by decide +kernel
theorem dX12_tries_36 : decode cX12_tries 36 = .ok (.aload_n 0, 1) := by decide +kernel
theorem dX12_tries_37 : decode cX12_tries 37 = .ok (.getfield 7, 3) := by decide +kernel
theorem dX12_tries_40 : decode cX12_tries 40 = .ok (.bipush 17, 2) := by decide +kernel
theorem dX12_tries_42 : decode cX12_tries 42 = .ok (.iload_n 1, 1) := by decide +kernel
theorem dX12_tries_43 : decode cX12_tries 43 = .ok (.iadd, 1) := by decide +kernel
theorem dX12_tries_44 : decode cX12_tries 44 = .ok (.iaload, 1) := by decide +kernel
theorem dX12_tries_45 : decode cX12_tries 45 = .ok (.aload_n 0, 1) := by decide +kernel
theorem dX12_tries_46 : decode cX12_tries 46 = .ok (.getfield 26, 3) := by decide +kernel
theorem dX12_tries_49 : decode cX12_tries 49 = .ok (.iload_n 3, 1) := by decide +kernel
theorem dX12_tries_50 : decode cX12_tries 50 = .ok (.iaload, 1) := by decide +kernel
theorem dX12_tries_51 : decode cX12_tries 51 = .ok (.invokestatic 254, 3) := by decide +kernel
theorem dX12_tries_54 : decode cX12_tries 54 = .ok (.iadd, 1) := by decide +kernel
theorem dX12_tries_55 : decode cX12_tries 55 = .ok (.iconst 2, 1) := by decide +kernel
theorem dX12_tries_56 : decode cX12_tries 56 = .ok (.iadd, 1) := by decide +kernel
theorem dX12_tries_57 : decode cX12_tries 57 = .ok (.istore 4, 2) := by decide +kernel
theorem dX12_tries_59 : decode cX12_tries 59 = .ok (.aload_n 0, 1) := by decide +kernel
theorem dX12_tries_60 : decode cX12_tries 60 = .ok (.iload_n 2, 1) := by decide +kernel
theorem dX12_tries_61 : decode cX12_tries 61 = .ok (.invokevirtual 240, 3) := by decide +kernel
theorem dX12_tries_64 : decode cX12_tries 64 = .ok (.ifCond .ne 20, 3) := by decide +kernel
theorem dX12_tries_67 : decode cX12_tries 67 = .ok (.aload_n 0, 1) := by decide +kernel
theorem dX12_tries_68 : decode cX12_tries 68 = .ok (.iload_n 3, 1) := by decide +kernel
theorem dX12_tries_69 : decode cX12_tries 69 = .ok (.invokevirtual 257, 3) := by decide +kernel
theorem dX12_tries_72 : decode cX12_tries 72 = .ok (.ifCond .ne 12, 3) := by decide +kernel
theorem dX12_tries_75 : decode cX12_tries 75 = .ok (.iload 4, 2) := by decide +kernel
theorem dX12_tries_77 : decode cX12_tries 77 = .ok (.aload_n 0, 1) := by decide +kernel
theorem dX12_tries_78 : decode cX12_tries 78 = .ok (.getfield 41, 3) := by decide +kernel
theorem dX12_tries_81 : decode cX12_tries 81 = .ok (.if_icmp .le 6, 3) := by decide +kernel
theorem dX12_tries_84 : decode cX12_tries 84 = .ok (.bipush (-4), 2) := by decide +kernel
theorem dX12_tries_86 : decode cX12_tries 86 = .ok (.ireturn, 1) := by decide +kernel
theorem dX12_tries_87 : decode cX12_tries 87 = .ok (.aload_n 0, 1) := by decide +kernel
theorem dX12_tries_88 : decode cX12_tries 88 = .ok (.invokevirtual 260, 3) := by decide +kernel
theorem dX12_tries_91 : decode cX12_tries 91 = .ok (.aload_n 0, 1) := by decide +kernel
theorem dX12_tries_92 : decode cX12_tries 92 = .ok (.getfield 7, 3) := by decide +kernel
theorem dX12_tries_95 : decode cX12_tries 95 = .ok (.bipush 20, 2) := by decide +kernel
theorem dX12_tries_97 : decode cX12_tries 97 = .ok (.iload_n 1, 1) := by decide +kernel
theorem dX12_tries_98 : decode cX12_tries 98 = .ok (.iadd, 1) := by decide +kernel
theorem dX12_tries_99 : decode cX12_tries 99 = .ok (.iload 4, 2) := by decide +kernel
theorem dX12_tries_101 : decode cX12_tries 101 = .ok (.iastore, 1) := by decide +kernel
theorem dX12_tries_102 : decode cX12_tries 102 = .ok (.aload_n 0, 1) := by decide +kernel
theorem dX12_tries_103 : decode cX12_tries 103 = .ok (.getfield 7, 3) := by decide +kernel
theorem dX12_tries_106 : decode cX12_tries 106 = .ok (.bipush 17, 2) := by decide +kernel
theorem dX12_tries_108 : decode cX12_tries 108 = .ok (.iload_n 1, 1) := by decide +kernel
theorem dX12_tries_109 : decode cX12_tries 109 = .ok (.iadd, 1) := by decide +kernel
theorem dX12_tries_110 : decode cX12_tries 110 = .ok (.aload_n 0, 1) := by decide +kernel
theorem dX12_tries_111 : decode cX12_tries 111 = .ok (.getfield 26, 3) := by decide +kernel
theorem dX12_tries_114 : decode cX12_tries 114 = .ok (.iload_n 3, 1) := by decide +kernel
theorem dX12_tries_115 : decode cX12_tries 115 = .ok (.iaload, 1) := by decide +kernel
theorem dX12_tries_116 : decode cX12_tries 116 = .ok (.iastore, 1) := by decide +kernel
theorem dX12_tries_117 : decode cX12_tries 117 = .ok (.aload_n 0, 1) := by decide +kernel
theorem dX12_tries_118 : decode cX12_tries 118 = .ok (.iload_n 2, 1) := by decide +kernel
theorem dX12_tries_119 : decode cX12_tries 119 = .ok (.iload_n 3, 1) := by decide +kernel
theorem dX12_tries_120 : decode cX12_tries 120 = .ok (.invokevirtual 249, 3) := by decide +kernel
theorem dX12_tries_123 : decode cX12_tries 123 = .ok (.ifCond .eq 45, 3) := by decide +kernel
theorem dX12_tries_126 : decode cX12_tries 126 = .ok (.aload_n 0, 1) := by decide +kernel
theorem dX12_tries_127 : decode cX12_tries 127 = .ok (.getfield 7, 3) := by decide +kernel
theorem dX12_tries_130 : decode cX12_tries 130 = .ok (.bipush 10, 2) := by decide +kernel
theorem dX12_tries_132 : decode cX12_tries 132 = .ok (.iload_n 2, 1) := by decide +kernel
theorem dX12_tries_133 : decode cX12_tries 133 = .ok (.iadd, 1) := by decide +kernel
theorem dX12_tries_134 : decode cX12_tries 134 = .ok (.dup2, 1) := by decide +kernel
theorem dX12_tries_135 : decode cX12_tries 135 = .ok (.iaload, 1) := by decide +kernel
theorem dX12_tries_136 : decode cX12_tries 136 = .ok (.iconst 1, 1) := by decide +kernel
theorem dX12_tries_137 : decode cX12_tries 137 = .ok (.iadd, 1) := by decide +kernel
theorem dX12_tries_138 : decode cX12_tries 138 = .ok (.iastore, 1) := by decide +kernel
theorem dX12_tries_139 : decode cX12_tries 139 = .ok (.aload_n 0, 1) := by decide +kernel
theorem dX12_tries_140 : decode cX12_tries 140 = .ok (.getfield 7, 3) := by decide +kernel
theorem dX12_tries_143 : decode cX12_tries 143 = .ok (.iconst 2, 1) := by decide +kernel
theorem dX12_tries_144 : decode cX12_tries 144 = .ok (.dup2, 1) := by decide +kernel
theorem dX12_tries_145 : decode cX12_tries 145 = .ok (.iaload, 1) := by decide +kernel
theorem dX12_tries_146 : decode cX12_tries 146 = .ok (.iconst 1, 1) := by decide +kernel
theorem dX12_tries_147 : decode cX12_tries 147 = .ok (.iload_n 3, 1) := by decide +kernel
theorem dX12_tries_148 : decode cX12_tries 148 = .ok (.ishl, 1) := by decide +kernel
theorem dX12_tries_149 : decode cX12_tries 149 = .ok (.ior, 1) := by decide +kernel
theorem dX12_tries_150 : decode cX12_tries 150 = .ok (.iastore, 1) := by decide +kernel
theorem dX12_tries_151 : decode cX12_tries 151 = .ok (.aload_n 0, 1) := by decide +kernel
theorem dX12_tries_152 : decode cX12_tries 152 = .ok (.getfield 7, 3) := by decide +kernel
theorem dX12_tries_155 : decode cX12_tries 155 = .ok (.iconst 1, 1) := by decide +kernel
theorem dX12_tries_156 : decode cX12_tries 156 = .ok (.dup2, 1) := by decide +kernel
theorem dX12_tries_157 : decode cX12_tries 157 = .ok (.iaload, 1) := by decide +kernel
theorem dX12_tries_158 : decode cX12_tries 158 = .ok (.aload_n 0, 1) := by decide +kernel
theorem dX12_tries_159 : decode cX12_tries 159 = .ok (.getfield 35, 3) := by decide +kernel
theorem dX12_tries_162 : decode cX12_tries 162 = .ok (.iload_n 3, 1) := by decide +kernel
theorem dX12_tries_163 : decode cX12_tries 163 = .ok (.iaload, 1) := by decide +kernel
theorem dX12_tries_164 : decode cX12_tries 164 = .ok (.iadd, 1) := by decide +kernel
theorem dX12_tries_165 : decode cX12_tries 165 = .ok (.iastore, 1) := by decide +kernel
theorem dX12_tries_166 : decode cX12_tries 166 = .ok (.iconst 2, 1) := by decide +kernel
theorem dX12_tries_167 : decode cX12_tries 167 = .ok (.ireturn, 1) := by decide +kernel
theorem dX12_tries_168 : decode cX12_tries 168 = .ok (.aload_n 0, 1) := by decide +kernel
theorem dX12_tries_169 : decode cX12_tries 169 = .ok (.getfield 17, 3) := by decide +kernel
theorem dX12_tries_172 : decode cX12_tries 172 = .ok (.iload_n 2, 1) := by decide +kernel
theorem dX12_tries_173 : decode cX12_tries 173 = .ok (.iaload, 1) := by decide +kernel
theorem dX12_tries_174 : decode cX12_tries 174 = .ok (.iconst 2, 1) := by decide +kernel
theorem dX12_tries_175 : decode cX12_tries 175 = .ok (.if_icmp .eq 61, 3) := by decide +kernel
theorem dX12_tries_178 : decode cX12_tries 178 = .ok (.aload_n 0, 1) := by decide +kernel
theorem dX12_tries_179 : decode cX12_tries 179 = .ok (.getfield 29, 3) := by decide +kernel
theorem dX12_tries_182 : decode cX12_tries 182 = .ok (.iload_n 3, 1) := by decide +kernel
theorem dX12_tries_183 : decode cX12_tries 183 = .ok (.iaload, 1) := by decide +kernel
theorem dX12_tries_184 : decode cX12_tries 184 = .ok (.aload_n 0, 1) := by decide +kernel
theorem dX12_tries_185 : decode cX12_tries 185 = .ok (.iload_n 2, 1) := by decide +kernel
theorem dX12_tries_186 : decode cX12_tries 186 = .ok (.invokevirtual 231, 3) := by decide +kernel
theorem dX12_tries_189 : decode cX12_tries 189 = .ok (.iconst (-1), 1) := by decide +kernel
theorem dX12_tries_190 : decode cX12_tries 190 = .ok (.ixor, 1) := by decide +kernel
theorem dX12_tries_191 : decode cX12_tries 191 = .ok (.iand, 1) := by decide +kernel
theorem dX12_tries_192 : decode cX12_tries 192 = .ok (.invokestatic 223, 3) := by decide +kernel
theorem dX12_tries_195 : decode cX12_tries 195 = .ok (.iconst 1, 1) := by decide +kernel
theorem dX12_tries_196 : decode cX12_tries 196 = .ok (.if_icmp .ne 40, 3) := by decide +kernel
theorem dX12_tries_199 : decode cX12_tries 199 = .ok (.aload_n 0, 1) := by decide +kernel
theorem dX12_tries_200 : decode cX12_tries 200 = .ok (.getfield 7, 3) := by decide +kernel
theorem dX12_tries_203 : decode cX12_tries 203 = .ok (.iconst 3, 1) := by decide +kernel
theorem dX12_tries_204 : decode cX12_tries 204 = .ok (.iload_n 2, 1) := by decide +kernel
theorem dX12_tries_205 : decode cX12_tries 205 = .ok (.iadd, 1) := by decide +kernel
theorem dX12_tries_206 : decode cX12_tries 206 = .ok (.aload_n 0, 1) := by decide +kernel
theorem dX12_tries_207 : decode cX12_tries 207 = .ok (.getfield 7, 3) := by decide +kernel
theorem dX12_tries_210 : decode cX12_tries 210 = .ok (.iconst 3, 1) := by decide +kernel
theorem dX12_tries_211 : decode cX12_tries 211 = .ok (.iload_n 2, 1) := by decide +kernel
theorem dX12_tries_212 : decode cX12_tries 212 = .ok (.iadd, 1) := by decide +kernel
theorem dX12_tries_213 : decode cX12_tries 213 = .ok (.iaload, 1) := by decide +kernel
theorem dX12_tries_214 : decode cX12_tries 214 = .ok (.bipush 8, 2) := by decide +kernel
theorem dX12_tries_216 : decode cX12_tries 216 = .ok (.if_icmp .ne 7, 3) := by decide +kernel
theorem dX12_tries_219 : decode cX12_tries 219 = .ok (.iconst 0, 1) := by decide +kernel
theorem dX12_tries_220 : decode cX12_tries 220 = .ok (.goto 13, 3) := by decide +kernel
theorem dX12_tries_223 : decode cX12_tries 223 = .ok (.aload_n 0, 1) := by decide +kernel
theorem dX12_tries_224 : decode cX12_tries 224 = .ok (.getfield 7, 3) := by decide +kernel
theorem dX12_tries_227 : decode cX12_tries 227 = .ok (.iconst 3, 1) := by decide +kernel
theorem dX12_tries_228 : decode cX12_tries 228 = .ok (.iload_n 2, 1) := by decide +kernel
theorem dX12_tries_229 : decode cX12_tries 229 = .ok (.iadd, 1) := by decide +kernel
theorem dX12_tries_230 : decode cX12_tries 230 = .ok (.iaload, 1) := by decide +kernel
theorem dX12_tries_231 : decode cX12_tries 231 = .ok (.iconst 1, 1) := by decide +kernel
theorem dX12_tries_232 : decode cX12_tries 232 = .ok (.iadd, 1) := by decide +kernel
theorem dX12_tries_233 : decode cX12_tries 233 = .ok (.iastore, 1) := by decide +kernel
theorem dX12_tries_234 : decode cX12_tries 234 = .ok (.iconst 1, 1) := by decide +kernel
theorem dX12_tries_235 : decode cX12_tries 235 = .ok (.ireturn, 1) := by decide +kernel
theorem dX12_tries_236 : decode cX12_tries 236 = .ok (.iconst 0, 1) := by decide +kernel
theorem dX12_tries_237 : decode cX12_tries 237 = .ok (.ireturn, 1) := by decide +kernel
set_option maxRecDepth 20000 in
theorem ggX12_shut_X12_isLock : GoodIn wsX12_shut wsX12_isLock := goodIn_r _ [7, 8, 9, 10, 6, 11, 24, 25, 26, 27, 28, 29, 30, 31, 32, 33, 34, 35, 36, 37, 38, 39, 40, 41, 42, 43, 44, 45, 46, 47, 48, 49, 50, 51, 52, 53, 54, 55, 56, 57, 58, 59, 60, 61, 62, 63, 64, 65, 66, 67, 68] rfl (by decide +kernel)
set_option maxRecDepth 20000 in
theorem gX12_shut_X12_isLock : GoodIn wsX12_shut (wsV RX12 243 RX12 yX12_isLock wsX12_isLock) := goodIn_app (goodIn_of _ (by decide +kernel)) ggX12_shut_X12_isLock
set_option maxRecDepth 20000 in
theorem ggX12_shut_X12_isOpen : GoodIn wsX12_shut wsX12_isOpen := goodIn_r _ [15, 1, 16, 17, 6, 18, 24, 25, 26, 27, 28, 29, 30, 31, 32, 33, 34, 35, 36, 37, 38, 39, 40, 41, 42, 43, 44, 45, 46, 47, 48, 49, 50, 51, 52, 53, 54, 55, 56, 57, 58, 59, 60, 61, 62, 63, 64, 65, 66, 67, 68] rfl (by decide +kernel)
set_option maxRecDepth 20000 in
theorem gX12_shut_X12_isOpen : GoodIn wsX12_shut (wsV RX12 257 RX12 yX12_isOpen wsX12_isOpen) := goodIn_app (goodIn_of _ (by decide +kernel)) ggX12_shut_X12_isOpen
set_option maxRecDepth 20000 in
theorem ggX12_shut_X12_keepPast : GoodIn wsX12_shut wsX12_keepPast := goodIn_r _ [22, 23, 1, 24, 25, 26, 27, 28, 29, 30, 31, 32, 33, 34, 35, 36, 37, 38, 39, 40, 41, 42, 43, 44, 45, 46, 47, 48, 49, 50, 51, 52, 53, 54, 55, 56, 57, 58, 59, 60, 61, 62, 63, 64, 65, 66, 67, 68] rfl (by decide +kernel)
set_option maxRecDepth 20000 in
theorem gX12_shut_X12_keepPast : GoodIn wsX12_shut (wsV RX12 260 RX12 yX12_keepPast wsX12_keepPast) := goodIn_app (goodIn_of _ (by decide +kernel)) ggX12_shut_X12_keepPast
theorem dX12_shut_0 : decode cX12_shut 0 = .ok (.aload_n 0, 1) := by decide +kernel
theorem dX12_shut_1 : decode cX12_shut 1 = .ok (.iload_n 1, 1) := by decide +kernel
theorem dX12_shut_2 : decode cX12_shut 2 = .ok (.invokevirtual 243, 3) := by decide +kernel
theorem dX12_shut_5 : decode cX12_shut 5 = .ok (.ifCond .ne 6, 3) := by decide +kernel
theorem dX12_shut_8 : decode cX12_shut 8 = .ok (.bipush (-2), 2) := by decide +kernel
theorem dX12_shut_10 : decode cX12_shut 10 = .ok (.ireturn, 1) := by decide +kernel
theorem dX12_shut_11 : decode cX12_shut 11 = .ok (.aload_n 0, 1) := by decide +kernel
theorem dX12_shut_12 : decode cX12_shut 12 = .ok (.iload_n 1, 1) := by decide +kernel
theorem dX12_shut_13 : decode cX12_shut 13 = .ok (.invokevirtual 257, 3) := by decide +kernel
theorem dX12_shut_16 : decode cX12_shut 16 = .ok (.ifCond .ne 6, 3) := by decide +kernel
theorem dX12_shut_19 : decode cX12_shut 19 = .ok (.bipush (-4), 2) := by decide +kernel
theorem dX12_shut_21 : decode cX12_shut 21 = .ok (.ireturn, 1) := by decide +kernel
theorem dX12_shut_22 : decode cX12_shut 22 = .ok (.aload_n 0, 1) := by decide +kernel
theorem dX12_shut_23 : decode cX12_shut 23 = .ok (.invokevirtual 260, 3) := by decide +kernel
theorem dX12_shut_26 : decode cX12_shut 26 = .ok (.aload_n 0, 1) := by decide +kernel
theorem dX12_shut_27 : decode cX12_shut 27 = .ok (.getfield 7, 3) := by decide +kernel
theorem dX12_shut_30 : decode cX12_shut 30 = .ok (.iconst 2, 1) := by decide +kernel
theorem dX12_shut_31 : decode cX12_shut 31 = .ok (.dup2, 1) := by decide +kernel
theorem dX12_shut_32 : decode cX12_shut 32 = .ok (.iaload, 1) := by decide +kernel
theorem dX12_shut_33 : decode cX12_shut 33 = .ok (.iconst 1, 1) := by decide +kernel
theorem dX12_shut_34 : decode cX12_shut 34 = .ok (.iload_n 1, 1) := by decide +kernel
theorem dX12_shut_35 : decode cX12_shut 35 = .ok (.ishl, 1) := by decide +kernel
theorem dX12_shut_36 : decode cX12_shut 36 = .ok (.iconst (-1), 1) := by decide +kernel
theorem dX12_shut_37 : decode cX12_shut 37 = .ok (.ixor, 1) := by decide +kernel
theorem dX12_shut_38 : decode cX12_shut 38 = .ok (.iand, 1) := by decide +kernel
theorem dX12_shut_39 : decode cX12_shut 39 = .ok (.iastore, 1) := by decide +kernel
theorem dX12_shut_40 : decode cX12_shut 40 = .ok (.aload_n 0, 1) := by decide +kernel
theorem dX12_shut_41 : decode cX12_shut 41 = .ok (.getfield 35, 3) := by decide +kernel
theorem dX12_shut_44 : decode cX12_shut 44 = .ok (.iload_n 1, 1) := by decide +kernel
theorem dX12_shut_45 : decode cX12_shut 45 = .ok (.iaload, 1) := by decide +kernel
theorem dX12_shut_46 : decode cX12_shut 46 = .ok (.ireturn, 1) := by decide +kernel
set_option maxRecDepth 20000 in
theorem ggX12_mend_X12_isKey : GoodIn wsX12_mend wsX12_isKey := goodIn_r _ [6, 7, 8, 9, 5, 10, 16, 17, 18, 19, 20, 21, 22, 23, 24, 25, 26, 27, 28, 29, 30, 31, 32, 33, 34, 35, 36, 37, 38, 39, 40, 41, 42, 43, 44, 45, 46, 47, 48, 49, 50, 51, 52, 53, 54, 55, 56, 57, 58, 59, 60] rfl (by decide +kernel)
set_option maxRecDepth 20000 in
theorem gX12_mend_X12_isKey : GoodIn wsX12_mend (wsV RX12 237 RX12 yX12_isKey wsX12_isKey) := goodIn_app (goodIn_of _ (by decide +kernel)) ggX12_mend_X12_isKey
set_option maxRecDepth 20000 in
theorem ggX12_mend_X12_keepPast : GoodIn wsX12_mend wsX12_keepPast := goodIn_r _ [14, 15, 1, 16, 17, 18, 19, 20, 21, 22, 23, 24, 25, 26, 27, 28, 29, 30, 31, 32, 33, 34, 35, 36, 37, 38, 39, 40, 41, 42, 43, 44, 45, 46, 47, 48, 49, 50, 51, 52, 53, 54, 55, 56, 57, 58, 59, 60] rfl (by decide +kernel)
set_option maxRecDepth 20000 in
theorem gX12_mend_X12_keepPast : GoodIn wsX12_mend (wsV RX12 260 RX12 yX12_keepPast wsX12_keepPast) := goodIn_app (goodIn_of _ (by decide +kernel)) ggX12_mend_X12_keepPast
theorem dX12_mend_0 : decode cX12_mend 0 = .ok (.aload_n 0, 1) := by decide +kernel
theorem dX12_mend_1 : decode cX12_mend 1 = .ok (.iload_n 1, 1) := by decide +kernel
theorem dX12_mend_2 : decode cX12_mend 2 = .ok (.invokevirtual 237, 3) := by decide +kernel
theorem dX12_mend_5 : decode cX12_mend 5 = .ok (.ifCond .ne 6, 3) := by decide +kernel
theorem dX12_mend_8 : decode cX12_mend 8 = .ok (.bipush (-2), 2) := by decide +kernel
theorem dX12_mend_10 : decode cX12_mend 10 = .ok (.ireturn, 1) := by decide +kernel
theorem dX12_mend_11 : decode cX12_mend 11 = .ok (.aload_n 0, 1) := by decide +kernel
theorem dX12_mend_12 : decode cX12_mend 12 = .ok (.getfield 7, 3) := by decide +kernel
theorem dX12_mend_15 : decode cX12_mend 15 = .ok (.iconst 3, 1) := by decide +kernel
theorem dX12_mend_16 : decode cX12_mend 16 = .ok (.iload_n 1, 1) := by decide +kernel
theorem dX12_mend_17 : decode cX12_mend 17 = .ok (.iadd, 1) := by decide +kernel
theorem dX12_mend_18 : decode cX12_mend 18 = .ok (.iaload, 1) := by decide +kernel
theorem dX12_mend_19 : decode cX12_mend 19 = .ok (.aload_n 0, 1) := by decide +kernel
theorem dX12_mend_20 : decode cX12_mend 20 = .ok (.getfield 7, 3) := by decide +kernel
theorem dX12_mend_23 : decode cX12_mend 23 = .ok (.bipush 10, 2) := by decide +kernel
theorem dX12_mend_25 : decode cX12_mend 25 = .ok (.iload_n 1, 1) := by decide +kernel
theorem dX12_mend_26 : decode cX12_mend 26 = .ok (.iadd, 1) := by decide +kernel
theorem dX12_mend_27 : decode cX12_mend 27 = .ok (.iaload, 1) := by decide +kernel
theorem dX12_mend_28 : decode cX12_mend 28 = .ok (.iadd, 1) := by decide +kernel
theorem dX12_mend_29 : decode cX12_mend 29 = .ok (.istore_n 2, 1) := by decide +kernel
theorem dX12_mend_30 : decode cX12_mend 30 = .ok (.iload_n 2, 1) := by decide +kernel
theorem dX12_mend_31 : decode cX12_mend 31 = .ok (.ifCond .ne 6, 3) := by decide +kernel
theorem dX12_mend_34 : decode cX12_mend 34 = .ok (.bipush (-4), 2) := by decide +kernel
theorem dX12_mend_36 : decode cX12_mend 36 = .ok (.ireturn, 1) := by decide +kernel
theorem dX12_mend_37 : decode cX12_mend 37 = .ok (.aload_n 0, 1) := by decide +kernel
theorem dX12_mend_38 : decode cX12_mend 38 = .ok (.invokevirtual 260, 3) := by decide +kernel
theorem dX12_mend_41 : decode cX12_mend 41 = .ok (.aload_n 0, 1) := by decide +kernel
theorem dX12_mend_42 : decode cX12_mend 42 = .ok (.getfield 7, 3) := by decide +kernel
theorem dX12_mend_45 : decode cX12_mend 45 = .ok (.iconst 3, 1) := by decide +kernel
theorem dX12_mend_46 : decode cX12_mend 46 = .ok (.iload_n 1, 1) := by decide +kernel
theorem dX12_mend_47 : decode cX12_mend 47 = .ok (.iadd, 1) := by decide +kernel
theorem dX12_mend_48 : decode cX12_mend 48 = .ok (.iconst 0, 1) := by decide +kernel
theorem dX12_mend_49 : decode cX12_mend 49 = .ok (.iastore, 1) := by decide +kernel
theorem dX12_mend_50 : decode cX12_mend 50 = .ok (.aload_n 0, 1) := by decide +kernel
theorem dX12_mend_51 : decode cX12_mend 51 = .ok (.getfield 7, 3) := by decide +kernel
theorem dX12_mend_54 : decode cX12_mend 54 = .ok (.bipush 10, 2) := by decide +kernel
theorem dX12_mend_56 : decode cX12_mend 56 = .ok (.iload_n 1, 1) := by decide +kernel
theorem dX12_mend_57 : decode cX12_mend 57 = .ok (.iadd, 1) := by decide +kernel
theorem dX12_mend_58 : decode cX12_mend 58 = .ok (.iconst 0, 1) := by decide +kernel
theorem dX12_mend_59 : decode cX12_mend 59 = .ok (.iastore, 1) := by decide +kernel
theorem dX12_mend_60 : decode cX12_mend 60 = .ok (.iload_n 2, 1) := by decide +kernel
theorem dX12_mend_61 : decode cX12_mend 61 = .ok (.ireturn, 1) := by decide +kernel
set_option maxRecDepth 20000 in
theorem ggX12_day_X12_keepPast : GoodIn wsX12_day wsX12_keepPast := goodIn_r _ [6, 7, 1, 8, 9, 10, 11, 12, 13, 14, 15, 16, 17, 18, 19, 20, 21, 22, 23, 24, 25, 26, 27, 28, 29, 30, 31, 32, 33, 34, 35, 36, 37, 38, 39, 40, 41, 42, 43, 44, 45, 46, 47, 48, 49, 50, 51, 52] rfl (by decide +kernel)
set_option maxRecDepth 20000 in
theorem gX12_day_X12_keepPast : GoodIn wsX12_day (wsV RX12 260 RX12 yX12_keepPast wsX12_keepPast) := goodIn_app (goodIn_of _ (by decide +kernel)) ggX12_day_X12_keepPast
theorem dX12_day_0 : decode cX12_day 0 = .ok (.aload_n 0, 1) := by decide +kernel
theorem dX12_day_1 : decode cX12_day 1 = .ok (.getfield 7, 3) := by decide +kernel
theorem dX12_day_4 : decode cX12_day 4 = .ok (.iconst 0, 1) := by decide +kernel
theorem dX12_day_5 : decode cX12_day 5 = .ok (.iaload, 1) := by decide +kernel
theorem dX12_day_6 : decode cX12_day 6 = .ok (.sipush 999, 3) := by decide +kernel
theorem dX12_day_9 : decode cX12_day 9 = .ok (.if_icmp .ne 6, 3) := by decide +kernel
theorem dX12_day_12 : decode cX12_day 12 = .ok (.bipush (-5), 2) := by decide +kernel
theorem dX12_day_14 : decode cX12_day 14 = .ok (.ireturn, 1) := by decide +kernel
theorem dX12_day_15 : decode cX12_day 15 = .ok (.aload_n 0, 1) := by decide +kernel
theorem dX12_day_16 : decode cX12_day 16 = .ok (.invokevirtual 260, 3) := by decide +kernel
theorem dX12_day_19 : decode cX12_day 19 = .ok (.aload_n 0, 1) := by decide +kernel
theorem dX12_day_20 : decode cX12_day 20 = .ok (.getfield 7, 3) := by decide +kernel
theorem dX12_day_23 : decode cX12_day 23 = .ok (.iconst 0, 1) := by decide +kernel
theorem dX12_day_24 : decode cX12_day 24 = .ok (.dup2, 1) := by decide +kernel
theorem dX12_day_25 : decode cX12_day 25 = .ok (.iaload, 1) := by decide +kernel
theorem dX12_day_26 : decode cX12_day 26 = .ok (.iconst 1, 1) := by decide +kernel
theorem dX12_day_27 : decode cX12_day 27 = .ok (.iadd, 1) := by decide +kernel
theorem dX12_day_28 : decode cX12_day 28 = .ok (.iastore, 1) := by decide +kernel
theorem dX12_day_29 : decode cX12_day 29 = .ok (.iconst 0, 1) := by decide +kernel
theorem dX12_day_30 : decode cX12_day 30 = .ok (.istore_n 1, 1) := by decide +kernel
theorem dX12_day_31 : decode cX12_day 31 = .ok (.iload_n 1, 1) := by decide +kernel
theorem dX12_day_32 : decode cX12_day 32 = .ok (.iconst 3, 1) := by decide +kernel
theorem dX12_day_33 : decode cX12_day 33 = .ok (.if_icmp .ge 19, 3) := by decide +kernel
theorem dX12_day_36 : decode cX12_day 36 = .ok (.aload_n 0, 1) := by decide +kernel
theorem dX12_day_37 : decode cX12_day 37 = .ok (.getfield 7, 3) := by decide +kernel
theorem dX12_day_40 : decode cX12_day 40 = .ok (.bipush 20, 2) := by decide +kernel
theorem dX12_day_42 : decode cX12_day 42 = .ok (.iload_n 1, 1) := by decide +kernel
theorem dX12_day_43 : decode cX12_day 43 = .ok (.iadd, 1) := by decide +kernel
theorem dX12_day_44 : decode cX12_day 44 = .ok (.iconst 0, 1) := by decide +kernel
theorem dX12_day_45 : decode cX12_day 45 = .ok (.iastore, 1) := by decide +kernel
theorem dX12_day_46 : decode cX12_day 46 = .ok (.iinc 1 1, 3) := by decide +kernel
theorem dX12_day_49 : decode cX12_day 49 = .ok (.goto (-18), 3) := by decide +kernel
theorem dX12_day_52 : decode cX12_day 52 = .ok (.aload_n 0, 1) := by decide +kernel
theorem dX12_day_53 : decode cX12_day 53 = .ok (.getfield 7, 3) := by decide +kernel
theorem dX12_day_56 : decode cX12_day 56 = .ok (.iconst 0, 1) := by decide +kernel
theorem dX12_day_57 : decode cX12_day 57 = .ok (.iaload, 1) := by decide +kernel
theorem dX12_day_58 : decode cX12_day 58 = .ok (.ireturn, 1) := by decide +kernel
theorem dX12_undo_0 : decode cX12_undo 0 = .ok (.aload_n 0, 1) := by decide +kernel
theorem dX12_undo_1 : decode cX12_undo 1 = .ok (.getfield 205, 3) := by decide +kernel
theorem dX12_undo_4 : decode cX12_undo 4 = .ok (.ifCond .ne 6, 3) := by decide +kernel
theorem dX12_undo_7 : decode cX12_undo 7 = .ok (.bipush (-4), 2) := by decide +kernel
theorem dX12_undo_9 : decode cX12_undo 9 = .ok (.ireturn, 1) := by decide +kernel
theorem dX12_undo_10 : decode cX12_undo 10 = .ok (.aload_n 0, 1) := by decide +kernel
theorem dX12_undo_11 : decode cX12_undo 11 = .ok (.dup, 1) := by decide +kernel
theorem dX12_undo_12 : decode cX12_undo 12 = .ok (.getfield 205, 3) := by decide +kernel
theorem dX12_undo_15 : decode cX12_undo 15 = .ok (.iconst 1, 1) := by decide +kernel
theorem dX12_undo_16 : decode cX12_undo 16 = .ok (.isub, 1) := by decide +kernel
theorem dX12_undo_17 : decode cX12_undo 17 = .ok (.putfield 205, 3) := by decide +kernel
theorem dX12_undo_20 : decode cX12_undo 20 = .ok (.iconst 0, 1) := by decide +kernel
theorem dX12_undo_21 : decode cX12_undo 21 = .ok (.istore_n 1, 1) := by decide +kernel
theorem dX12_undo_22 : decode cX12_undo 22 = .ok (.iload_n 1, 1) := by decide +kernel
theorem dX12_undo_23 : decode cX12_undo 23 = .ok (.bipush 23, 2) := by decide +kernel
theorem dX12_undo_25 : decode cX12_undo 25 = .ok (.if_icmp .ge 32, 3) := by decide +kernel
theorem dX12_undo_28 : decode cX12_undo 28 = .ok (.aload_n 0, 1) := by decide +kernel
theorem dX12_undo_29 : decode cX12_undo 29 = .ok (.getfield 7, 3) := by decide +kernel
theorem dX12_undo_32 : decode cX12_undo 32 = .ok (.iload_n 1, 1) := by decide +kernel
theorem dX12_undo_33 : decode cX12_undo 33 = .ok (.aload_n 0, 1) := by decide +kernel
theorem dX12_undo_34 : decode cX12_undo 34 = .ok (.getfield 7, 3) := by decide +kernel
theorem dX12_undo_37 : decode cX12_undo 37 = .ok (.bipush 23, 2) := by decide +kernel
theorem dX12_undo_39 : decode cX12_undo 39 = .ok (.bipush 23, 2) := by decide +kernel
theorem dX12_undo_41 : decode cX12_undo 41 = .ok (.aload_n 0, 1) := by decide +kernel
theorem dX12_undo_42 : decode cX12_undo 42 = .ok (.getfield 205, 3) := by decide +kernel
theorem dX12_undo_45 : decode cX12_undo 45 = .ok (.imul, 1) := by decide +kernel
theorem dX12_undo_46 : decode cX12_undo 46 = .ok (.iadd, 1) := by decide +kernel
theorem dX12_undo_47 : decode cX12_undo 47 = .ok (.iload_n 1, 1) := by decide +kernel
theorem dX12_undo_48 : decode cX12_undo 48 = .ok (.iadd, 1) := by decide +kernel
theorem dX12_undo_49 : decode cX12_undo 49 = .ok (.iaload, 1) := by decide +kernel
theorem dX12_undo_50 : decode cX12_undo 50 = .ok (.iastore, 1) := by decide +kernel
theorem dX12_undo_51 : decode cX12_undo 51 = .ok (.iinc 1 1, 3) := by decide +kernel
theorem dX12_undo_54 : decode cX12_undo 54 = .ok (.goto (-32), 3) := by decide +kernel
theorem dX12_undo_57 : decode cX12_undo 57 = .ok (.aload_n 0, 1) := by decide +kernel
theorem dX12_undo_58 : decode cX12_undo 58 = .ok (.getfield 205, 3) := by decide +kernel
theorem dX12_undo_61 : decode cX12_undo 61 = .ok (.ireturn, 1) := by decide +kernel
set_option maxRecDepth 20000 in
theorem ggX12_keep_X12_in : GoodIn wsX12_keep wsX12_in := goodIn_r _ [6] rfl (by decide +kernel)
set_option maxRecDepth 20000 in
theorem gX12_keep_X12_in : GoodIn wsX12_keep (va_wsS RX12 111 yX12_in wsX12_in) := goodIn_app (goodIn_of _ (by decide +kernel)) ggX12_keep_X12_in
theorem dX12_keep_0 : decode cX12_keep 0 = .ok (.iload_n 1, 1) := by decide +kernel
theorem dX12_keep_1 : decode cX12_keep 1 = .ok (.i2l, 1) := by decide +kernel
theorem dX12_keep_2 : decode cX12_keep 2 = .ok (.lconst 0, 1) := by decide +kernel
theorem dX12_keep_3 : decode cX12_keep 3 = .ok (.lconst 1, 1) := by decide +kernel
theorem dX12_keep_4 : decode cX12_keep 4 = .ok (.invokestatic 111, 3) := by decide +kernel
theorem dX12_keep_7 : decode cX12_keep 7 = .ok (.ifCond .ne 6, 3) := by decide +kernel
theorem dX12_keep_10 : decode cX12_keep 10 = .ok (.bipush (-2), 2) := by decide +kernel
theorem dX12_keep_12 : decode cX12_keep 12 = .ok (.ireturn, 1) := by decide +kernel
theorem dX12_keep_13 : decode cX12_keep 13 = .ok (.iconst 0, 1) := by decide +kernel
theorem dX12_keep_14 : decode cX12_keep 14 = .ok (.istore_n 2, 1) := by decide +kernel
theorem dX12_keep_15 : decode cX12_keep 15 = .ok (.iload_n 2, 1) := by decide +kernel
theorem dX12_keep_16 : decode cX12_keep 16 = .ok (.bipush 23, 2) := by decide +kernel
theorem dX12_keep_18 : decode cX12_keep 18 = .ok (.if_icmp .ge 30, 3) := by decide +kernel
theorem dX12_keep_21 : decode cX12_keep 21 = .ok (.aload_n 0, 1) := by decide +kernel
theorem dX12_keep_22 : decode cX12_keep 22 = .ok (.getfield 7, 3) := by decide +kernel
theorem dX12_keep_25 : decode cX12_keep 25 = .ok (.sipush 207, 3) := by decide +kernel
theorem dX12_keep_28 : decode cX12_keep 28 = .ok (.bipush 23, 2) := by decide +kernel
theorem dX12_keep_30 : decode cX12_keep 30 = .ok (.iload_n 1, 1) := by decide +kernel
theorem dX12_keep_31 : decode cX12_keep 31 = .ok (.imul, 1) := by decide +kernel
theorem dX12_keep_32 : decode cX12_keep 32 = .ok (.iadd, 1) := by decide +kernel
theorem dX12_keep_33 : decode cX12_keep 33 = .ok (.iload_n 2, 1) := by decide +kernel
theorem dX12_keep_34 : decode cX12_keep 34 = .ok (.iadd, 1) := by decide +kernel
theorem dX12_keep_35 : decode cX12_keep 35 = .ok (.aload_n 0, 1) := by decide +kernel
theorem dX12_keep_36 : decode cX12_keep 36 = .ok (.getfield 7, 3) := by decide +kernel
theorem dX12_keep_39 : decode cX12_keep 39 = .ok (.iload_n 2, 1) := by decide +kernel
theorem dX12_keep_40 : decode cX12_keep 40 = .ok (.iaload, 1) := by decide +kernel
theorem dX12_keep_41 : decode cX12_keep 41 = .ok (.iastore, 1) := by decide +kernel
theorem dX12_keep_42 : decode cX12_keep 42 = .ok (.iinc 2 1, 3) := by decide +kernel
theorem dX12_keep_45 : decode cX12_keep 45 = .ok (.goto (-30), 3) := by decide +kernel
theorem dX12_keep_48 : decode cX12_keep 48 = .ok (.aload_n 0, 1) := by decide +kernel
theorem dX12_keep_49 : decode cX12_keep 49 = .ok (.getfield 13, 3) := by decide +kernel
theorem dX12_keep_52 : decode cX12_keep 52 = .ok (.iload_n 1, 1) := by decide +kernel
theorem dX12_keep_53 : decode cX12_keep 53 = .ok (.iconst 1, 1) := by decide +kernel
theorem dX12_keep_54 : decode cX12_keep 54 = .ok (.bastore, 1) := by decide +kernel
theorem dX12_keep_55 : decode cX12_keep 55 = .ok (.aload_n 0, 1) := by decide +kernel
theorem dX12_keep_56 : decode cX12_keep 56 = .ok (.getfield 7, 3) := by decide +kernel
theorem dX12_keep_59 : decode cX12_keep 59 = .ok (.iconst 0, 1) := by decide +kernel
theorem dX12_keep_60 : decode cX12_keep 60 = .ok (.iaload, 1) := by decide +kernel
theorem dX12_keep_61 : decode cX12_keep 61 = .ok (.ireturn, 1) := by decide +kernel
set_option maxRecDepth 20000 in
theorem ggX12_back_X12_in : GoodIn wsX12_back wsX12_in := goodIn_r _ [7] rfl (by decide +kernel)
set_option maxRecDepth 20000 in
theorem gX12_back_X12_in : GoodIn wsX12_back (va_wsS RX12 111 yX12_in wsX12_in) := goodIn_app (goodIn_of _ (by decide +kernel)) ggX12_back_X12_in
theorem dX12_back_0 : decode cX12_back 0 = .ok (.iload_n 1, 1) := by decide +kernel
theorem dX12_back_1 : decode cX12_back 1 = .ok (.i2l, 1) := by decide +kernel
theorem dX12_back_2 : decode cX12_back 2 = .ok (.lconst 0, 1) := by decide +kernel
theorem dX12_back_3 : decode cX12_back 3 = .ok (.lconst 1, 1) := by decide +kernel
theorem dX12_back_4 : decode cX12_back 4 = .ok (.invokestatic 111, 3) := by decide +kernel
theorem dX12_back_7 : decode cX12_back 7 = .ok (.ifCond .ne 6, 3) := by decide +kernel
theorem dX12_back_10 : decode cX12_back 10 = .ok (.bipush (-2), 2) := by decide +kernel
theorem dX12_back_12 : decode cX12_back 12 = .ok (.ireturn, 1) := by decide +kernel
theorem dX12_back_13 : decode cX12_back 13 = .ok (.aload_n 0, 1) := by decide +kernel
theorem dX12_back_14 : decode cX12_back 14 = .ok (.getfield 13, 3) := by decide +kernel
theorem dX12_back_17 : decode cX12_back 17 = .ok (.iload_n 1, 1) := by decide +kernel
theorem dX12_back_18 : decode cX12_back 18 = .ok (.baload, 1) := by decide +kernel
theorem dX12_back_19 : decode cX12_back 19 = .ok (.ifCond .ne 6, 3) := by decide +kernel
theorem dX12_back_22 : decode cX12_back 22 = .ok (.bipush (-4), 2) := by decide +kernel
theorem dX12_back_24 : decode cX12_back 24 = .ok (.ireturn, 1) := by decide +kernel
theorem dX12_back_25 : decode cX12_back 25 = .ok (.iconst 0, 1) := by decide +kernel
theorem dX12_back_26 : decode cX12_back 26 = .ok (.istore_n 2, 1) := by decide +kernel
theorem dX12_back_27 : decode cX12_back 27 = .ok (.iload_n 2, 1) := by decide +kernel
theorem dX12_back_28 : decode cX12_back 28 = .ok (.bipush 23, 2) := by decide +kernel
theorem dX12_back_30 : decode cX12_back 30 = .ok (.if_icmp .ge 30, 3) := by decide +kernel
theorem dX12_back_33 : decode cX12_back 33 = .ok (.aload_n 0, 1) := by decide +kernel
theorem dX12_back_34 : decode cX12_back 34 = .ok (.getfield 7, 3) := by decide +kernel
theorem dX12_back_37 : decode cX12_back 37 = .ok (.iload_n 2, 1) := by decide +kernel
theorem dX12_back_38 : decode cX12_back 38 = .ok (.aload_n 0, 1) := by decide +kernel
theorem dX12_back_39 : decode cX12_back 39 = .ok (.getfield 7, 3) := by decide +kernel
theorem dX12_back_42 : decode cX12_back 42 = .ok (.sipush 207, 3) := by decide +kernel
theorem dX12_back_45 : decode cX12_back 45 = .ok (.bipush 23, 2) := by decide +kernel
theorem dX12_back_47 : decode cX12_back 47 = .ok (.iload_n 1, 1) := by decide +kernel
theorem dX12_back_48 : decode cX12_back 48 = .ok (.imul, 1) := by decide +kernel
theorem dX12_back_49 : decode cX12_back 49 = .ok (.iadd, 1) := by decide +kernel
theorem dX12_back_50 : decode cX12_back 50 = .ok (.iload_n 2, 1) := by decide +kernel
theorem dX12_back_51 : decode cX12_back 51 = .ok (.iadd, 1) := by decide +kernel
theorem dX12_back_52 : decode cX12_back 52 = .ok (.iaload, 1) := by decide +kernel
theorem dX12_back_53 : decode cX12_back 53 = .ok (.iastore, 1) := by decide +kernel
theorem dX12_back_54 : decode cX12_back 54 = .ok (.iinc 2 1, 3) := by decide +kernel
theorem dX12_back_57 : decode cX12_back 57 = .ok (.goto (-30), 3) := by decide +kernel
theorem dX12_back_60 : decode cX12_back 60 = .ok (.aload_n 0, 1) := by decide +kernel
theorem dX12_back_61 : decode cX12_back 61 = .ok (.iconst 0, 1) := by decide +kernel
theorem dX12_back_62 : decode cX12_back 62 = .ok (.putfield 205, 3) := by decide +kernel
theorem dX12_back_65 : decode cX12_back 65 = .ok (.aload_n 0, 1) := by decide +kernel
theorem dX12_back_66 : decode cX12_back 66 = .ok (.getfield 7, 3) := by decide +kernel
theorem dX12_back_69 : decode cX12_back 69 = .ok (.iconst 0, 1) := by decide +kernel
theorem dX12_back_70 : decode cX12_back 70 = .ok (.iaload, 1) := by decide +kernel
theorem dX12_back_71 : decode cX12_back 71 = .ok (.ireturn, 1) := by decide +kernel
set_option maxRecDepth 20000 in
theorem ggX12_belongings_X12_doesGo : GoodIn wsX12_belongings wsX12_doesGo := goodIn_r _ [6, 7, 8, 9, 10, 5, 11, 12, 13, 14, 15, 16, 17, 18, 19, 20, 21, 22, 23, 24, 25, 26, 27, 28, 29, 30, 31, 32, 33, 34, 35, 36, 37, 38, 39, 40, 41, 42, 43, 44, 45, 46, 47, 48, 49, 50, 51, 52, 53, 54, 55, 56, 57, 58, 59, 60, 61, 62, 63, 64, 65, 66, 67, 68, 69, 70, 71, 72, 73, 74, 75, 76, 77, 78, 79, 80] rfl (by decide +kernel)
set_option maxRecDepth 20000 in
theorem gX12_belongings_X12_doesGo : GoodIn wsX12_belongings (wsV RX12 249 RX12 yX12_doesGo wsX12_doesGo) := goodIn_app (goodIn_of _ (by decide +kernel)) ggX12_belongings_X12_doesGo
theorem dX12_belongings_0 : decode cX12_belongings 0 = .ok (.iconst 0, 1) := by decide +kernel
theorem dX12_belongings_1 : decode cX12_belongings 1 = .ok (.istore_n 2, 1) := by decide +kernel
theorem dX12_belongings_2 : decode cX12_belongings 2 = .ok (.iconst 0, 1) := by decide +kernel
theorem dX12_belongings_3 : decode cX12_belongings 3 = .ok (.istore_n 3, 1) := by decide +kernel
theorem dX12_belongings_4 : decode cX12_belongings 4 = .ok (.iload_n 3, 1) := by decide +kernel
theorem dX12_belongings_5 : decode cX12_belongings 5 = .ok (.aload_n 0, 1) := by decide +kernel
theorem dX12_belongings_6 : decode cX12_belongings 6 = .ok (.getfield 145, 3) := by decide +kernel
theorem dX12_belongings_9 : decode cX12_belongings 9 = .ok (.if_icmp .ge 28, 3) := by decide +kernel
theorem dX12_belongings_12 : decode cX12_belongings 12 = .ok (.iload_n 2, 1) := by decide +kernel
theorem dX12_belongings_13 : decode cX12_belongings 13 = .ok (.aload_n 0, 1) := by decide +kernel
theorem dX12_belongings_14 : decode cX12_belongings 14 = .ok (.iload_n 1, 1) := by decide +kernel
theorem dX12_belongings_15 : decode cX12_belongings 15 = .ok (.iload_n 3, 1) := by decide +kernel
theorem dX12_belongings_16 : decode cX12_belongings 16 = .ok (.invokevirtual 249, 3) := by decide +kernel
theorem dX12_belongings_19 : decode cX12_belongings 19 = .ok (.ifCond .eq 9, 3) := by decide +kernel
theorem dX12_belongings_22 : decode cX12_belongings 22 = .ok (.iconst 1, 1) := by decide +kernel
theorem dX12_belongings_23 : decode cX12_belongings 23 = .ok (.iload_n 3, 1) := by decide +kernel
theorem dX12_belongings_24 : decode cX12_belongings 24 = .ok (.ishl, 1) := by decide +kernel
theorem dX12_belongings_25 : decode cX12_belongings 25 = .ok (.goto 4, 3) := by decide +kernel
theorem dX12_belongings_28 : decode cX12_belongings 28 = .ok (.iconst 0, 1) := by decide +kernel
theorem dX12_belongings_29 : decode cX12_belongings 29 = .ok (.ior, 1) := by decide +kernel
theorem dX12_belongings_30 : decode cX12_belongings 30 = .ok (.istore_n 2, 1) := by decide +kernel
theorem dX12_belongings_31 : decode cX12_belongings 31 = .ok (.iinc 3 1, 3) := by decide +kernel
theorem dX12_belongings_34 : decode cX12_belongings 34 = .ok (.goto (-30), 3) := by decide +kernel
theorem dX12_belongings_37 : decode cX12_belongings 37 = .ok (.iload_n 2, 1) := by decide +kernel
theorem dX12_belongings_38 : decode cX12_belongings 38 = .ok (.ireturn, 1) := by decide +kernel
set_option maxRecDepth 20000 in
theorem ggX12_belongs_X12_isKey : GoodIn wsX12_belongs wsX12_isKey := goodIn_r _ [5, 6, 7, 8, 4, 9, 48, 49, 50, 51, 52, 53, 54, 55, 56, 57, 58, 59, 60, 61, 62, 63, 64, 65, 66, 67, 68, 69, 70, 71, 72, 73, 74, 75, 76, 77, 78, 79, 80, 81, 82, 83, 84, 85, 86, 87, 88, 89, 90, 91, 92] rfl (by decide +kernel)
set_option maxRecDepth 20000 in
theorem gX12_belongs_X12_isKey : GoodIn wsX12_belongs (wsV RX12 237 RX12 yX12_isKey wsX12_isKey) := goodIn_app (goodIn_of _ (by decide +kernel)) ggX12_belongs_X12_isKey
set_option maxRecDepth 20000 in
theorem ggX12_belongs_X12_belongings : GoodIn wsX12_belongs wsX12_belongings := goodIn_r _ [13, 14, 15, 16, 17, 4, 18, 19, 20, 21, 22, 23, 24, 25, 26, 27, 28, 29, 30, 31, 32, 33, 34, 35, 36, 37, 38, 39, 40, 41, 42, 43, 44, 45, 46, 47, 48, 49, 50, 51, 52, 53, 54, 55, 56, 57, 58, 59, 60, 61, 62, 63, 64, 65, 66, 67, 68, 69, 70, 71, 72, 73, 74, 75, 76, 77, 78, 79, 80, 81, 82, 83, 84, 85, 86, 87, 88, 89, 90, 91, 92] rfl (by decide +kernel)
set_option maxRecDepth 20000 in
theorem gX12_belongs_X12_belongings : GoodIn wsX12_belongs (wsV RX12 263 RX12 yX12_belongings wsX12_belongings) := goodIn_app (goodIn_of _ (by decide +kernel)) ggX12_belongs_X12_belongings
theorem dX12_belongs_0 : decode cX12_belongs 0 = .ok (.aload_n 0, 1) := by decide +kernel
theorem dX12_belongs_1 : decode cX12_belongs 1 = .ok (.iload_n 1, 1) := by decide +kernel
theorem dX12_belongs_2 : decode cX12_belongs 2 = .ok (.invokevirtual 237, 3) := by decide +kernel
theorem dX12_belongs_5 : decode cX12_belongs 5 = .ok (.ifCond .eq 11, 3) := by decide +kernel
theorem dX12_belongs_8 : decode cX12_belongs 8 = .ok (.aload_n 0, 1) := by decide +kernel
theorem dX12_belongs_9 : decode cX12_belongs 9 = .ok (.iload_n 1, 1) := by decide +kernel
theorem dX12_belongs_10 : decode cX12_belongs 10 = .ok (.invokevirtual 263, 3) := by decide +kernel
theorem dX12_belongs_13 : decode cX12_belongs 13 = .ok (.goto 5, 3) := by decide +kernel
theorem dX12_belongs_16 : decode cX12_belongs 16 = .ok (.bipush (-2), 2) := by decide +kernel
theorem dX12_belongs_18 : decode cX12_belongs 18 = .ok (.ireturn, 1) := by decide +kernel
set_option maxRecDepth 20000 in
theorem ggX12_openers_X12_isLock : GoodIn wsX12_openers wsX12_isLock := goodIn_r _ [6, 7, 8, 9, 5, 10, 44, 45, 46, 47, 48, 49, 50, 51, 52, 53, 54, 55, 56, 57, 58, 59, 60, 61, 62, 63, 64, 65, 66, 67, 68, 69, 70, 71, 72, 73, 74, 75, 76, 77, 78, 79, 80, 81, 82, 83, 84, 85, 86, 87, 88] rfl (by decide +kernel)
set_option maxRecDepth 20000 in
theorem gX12_openers_X12_isLock : GoodIn wsX12_openers (wsV RX12 243 RX12 yX12_isLock wsX12_isLock) := goodIn_app (goodIn_of _ (by decide +kernel)) ggX12_openers_X12_isLock
set_option maxRecDepth 20000 in
theorem ggX12_openers_X12_doesGo : GoodIn wsX12_openers wsX12_doesGo := goodIn_r _ [14, 15, 16, 17, 18, 5, 19, 20, 21, 22, 23, 24, 25, 26, 27, 28, 29, 30, 31, 32, 33, 34, 35, 36, 37, 38, 39, 40, 41, 42, 43, 44, 45, 46, 47, 48, 49, 50, 51, 52, 53, 54, 55, 56, 57, 58, 59, 60, 61, 62, 63, 64, 65, 66, 67, 68, 69, 70, 71, 72, 73, 74, 75, 76, 77, 78, 79, 80, 81, 82, 83, 84, 85, 86, 87, 88] rfl (by decide +kernel)
set_option maxRecDepth 20000 in
theorem gX12_openers_X12_doesGo : GoodIn wsX12_openers (wsV RX12 249 RX12 yX12_doesGo wsX12_doesGo) := goodIn_app (goodIn_of _ (by decide +kernel)) ggX12_openers_X12_doesGo
theorem dX12_openers_0 : decode cX12_openers 0 = .ok (.aload_n 0, 1) := by decide +kernel
theorem dX12_openers_1 : decode cX12_openers 1 = .ok (.iload_n 1, 1) := by decide +kernel
theorem dX12_openers_2 : decode cX12_openers 2 = .ok (.invokevirtual 243, 3) := by decide +kernel
theorem dX12_openers_5 : decode cX12_openers 5 = .ok (.ifCond .ne 6, 3) := by decide +kernel
theorem dX12_openers_8 : decode cX12_openers 8 = .ok (.bipush (-2), 2) := by decide +kernel
theorem dX12_openers_10 : decode cX12_openers 10 = .ok (.ireturn, 1) := by decide +kernel
theorem dX12_openers_11 : decode cX12_openers 11 = .ok (.iconst 0, 1) := by decide +kernel
theorem dX12_openers_12 : decode cX12_openers 12 = .ok (.istore_n 2, 1) := by decide +kernel
theorem dX12_openers_13 : decode cX12_openers 13 = .ok (.iconst 0, 1) := by decide +kernel
theorem dX12_openers_14 : decode cX12_openers 14 = .ok (.istore_n 3, 1) := by decide +kernel
theorem dX12_openers_15 : decode cX12_openers 15 = .ok (.iload_n 3, 1) := by decide +kernel
theorem dX12_openers_16 : decode cX12_openers 16 = .ok (.aload_n 0, 1) := by decide +kernel
theorem dX12_openers_17 : decode cX12_openers 17 = .ok (.getfield 142, 3) := by decide +kernel
theorem dX12_openers_20 : decode cX12_openers 20 = .ok (.if_icmp .ge 28, 3) := by decide +kernel
theorem dX12_openers_23 : decode cX12_openers 23 = .ok (.iload_n 2, 1) := by decide +kernel
theorem dX12_openers_24 : decode cX12_openers 24 = .ok (.aload_n 0, 1) := by decide +kernel
theorem dX12_openers_25 : decode cX12_openers 25 = .ok (.iload_n 3, 1) := by decide +kernel
theorem dX12_openers_26 : decode cX12_openers 26 = .ok (.iload_n 1, 1) := by decide +kernel
theorem dX12_openers_27 : decode cX12_openers 27 = .ok (.invokevirtual 249, 3) := by decide +kernel
theorem dX12_openers_30 : decode cX12_openers 30 = .ok (.ifCond .eq 9, 3) := by decide +kernel
theorem dX12_openers_33 : decode cX12_openers 33 = .ok (.iconst 1, 1) := by decide +kernel
theorem dX12_openers_34 : decode cX12_openers 34 = .ok (.iload_n 3, 1) := by decide +kernel
theorem dX12_openers_35 : decode cX12_openers 35 = .ok (.ishl, 1) := by decide +kernel
theorem dX12_openers_36 : decode cX12_openers 36 = .ok (.goto 4, 3) := by decide +kernel
theorem dX12_openers_39 : decode cX12_openers 39 = .ok (.iconst 0, 1) := by decide +kernel
theorem dX12_openers_40 : decode cX12_openers 40 = .ok (.ior, 1) := by decide +kernel
theorem dX12_openers_41 : decode cX12_openers 41 = .ok (.istore_n 2, 1) := by decide +kernel
theorem dX12_openers_42 : decode cX12_openers 42 = .ok (.iinc 3 1, 3) := by decide +kernel
theorem dX12_openers_45 : decode cX12_openers 45 = .ok (.goto (-30), 3) := by decide +kernel
theorem dX12_openers_48 : decode cX12_openers 48 = .ok (.iload_n 2, 1) := by decide +kernel
theorem dX12_openers_49 : decode cX12_openers 49 = .ok (.ireturn, 1) := by decide +kernel
set_option maxRecDepth 20000 in
theorem ggX12_twins_X12_in : GoodIn wsX12_twins wsX12_in := goodIn_r _ [7] rfl (by decide +kernel)
set_option maxRecDepth 20000 in
theorem gX12_twins_X12_in : GoodIn wsX12_twins (va_wsS RX12 111 yX12_in wsX12_in) := goodIn_app (goodIn_of _ (by decide +kernel)) ggX12_twins_X12_in
set_option maxRecDepth 20000 in
theorem ggX12_twins_X12_belongings : GoodIn wsX12_twins wsX12_belongings := goodIn_r _ [11, 12, 13, 14, 15, 6, 16, 17, 18, 19, 20, 21, 22, 23, 24, 25, 26, 27, 28, 29, 30, 31, 32, 33, 34, 35, 36, 37, 38, 39, 40, 41, 42, 43, 44, 45, 46, 47, 48, 49, 50, 51, 52, 53, 54, 55, 56, 57, 58, 59, 60, 61, 62, 63, 64, 65, 66, 67, 68, 69, 70, 71, 72, 73, 74, 75, 76, 77, 78, 79, 80, 81, 82, 83, 84, 85, 86, 87, 88, 89, 90] rfl (by decide +kernel)
set_option maxRecDepth 20000 in
theorem gX12_twins_X12_belongings : GoodIn wsX12_twins (wsV RX12 263 RX12 yX12_belongings wsX12_belongings) := goodIn_app (goodIn_of _ (by decide +kernel)) ggX12_twins_X12_belongings
theorem dX12_twins_0 : decode cX12_twins 0 = .ok (.iload_n 1, 1) := by decide +kernel
theorem dX12_twins_1 : decode cX12_twins 1 = .ok (.i2l, 1) := by decide +kernel
