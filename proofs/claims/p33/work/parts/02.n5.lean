theorem dX12_twins_2 : decode cX12_twins 2 = .ok (.ldc2_w 266, 3) := by decide +kernel
theorem dX12_twins_5 : decode cX12_twins 5 = .ok (.ldc2_w 268, 3) := by decide +kernel
theorem dX12_twins_8 : decode cX12_twins 8 = .ok (.invokestatic 111, 3) := by decide +kernel
theorem dX12_twins_11 : decode cX12_twins 11 = .ok (.ifCond .ne 6, 3) := by decide +kernel
theorem dX12_twins_14 : decode cX12_twins 14 = .ok (.bipush (-3), 2) := by decide +kernel
theorem dX12_twins_16 : decode cX12_twins 16 = .ok (.ireturn, 1) := by decide +kernel
theorem dX12_twins_17 : decode cX12_twins 17 = .ok (.iconst 0, 1) := by decide +kernel
theorem dX12_twins_18 : decode cX12_twins 18 = .ok (.istore_n 2, 1) := by decide +kernel
theorem dX12_twins_19 : decode cX12_twins 19 = .ok (.iconst (-1), 1) := by decide +kernel
theorem dX12_twins_20 : decode cX12_twins 20 = .ok (.istore_n 3, 1) := by decide +kernel
theorem dX12_twins_21 : decode cX12_twins 21 = .ok (.iconst 0, 1) := by decide +kernel
theorem dX12_twins_22 : decode cX12_twins 22 = .ok (.istore 4, 2) := by decide +kernel
theorem dX12_twins_24 : decode cX12_twins 24 = .ok (.iload 4, 2) := by decide +kernel
theorem dX12_twins_26 : decode cX12_twins 26 = .ok (.aload_n 0, 1) := by decide +kernel
theorem dX12_twins_27 : decode cX12_twins 27 = .ok (.getfield 142, 3) := by decide +kernel
theorem dX12_twins_30 : decode cX12_twins 30 = .ok (.if_icmp .ge 75, 3) := by decide +kernel
theorem dX12_twins_33 : decode cX12_twins 33 = .ok (.iload 4, 2) := by decide +kernel
theorem dX12_twins_35 : decode cX12_twins 35 = .ok (.iconst 1, 1) := by decide +kernel
theorem dX12_twins_36 : decode cX12_twins 36 = .ok (.iadd, 1) := by decide +kernel
theorem dX12_twins_37 : decode cX12_twins 37 = .ok (.istore 5, 2) := by decide +kernel
theorem dX12_twins_39 : decode cX12_twins 39 = .ok (.iload 5, 2) := by decide +kernel
theorem dX12_twins_41 : decode cX12_twins 41 = .ok (.aload_n 0, 1) := by decide +kernel
theorem dX12_twins_42 : decode cX12_twins 42 = .ok (.getfield 142, 3) := by decide +kernel
theorem dX12_twins_45 : decode cX12_twins 45 = .ok (.if_icmp .ge 54, 3) := by decide +kernel
theorem dX12_twins_48 : decode cX12_twins 48 = .ok (.aload_n 0, 1) := by decide +kernel
theorem dX12_twins_49 : decode cX12_twins 49 = .ok (.iload 4, 2) := by decide +kernel
theorem dX12_twins_51 : decode cX12_twins 51 = .ok (.invokevirtual 263, 3) := by decide +kernel
theorem dX12_twins_54 : decode cX12_twins 54 = .ok (.ifCond .eq 39, 3) := by decide +kernel
theorem dX12_twins_57 : decode cX12_twins 57 = .ok (.aload_n 0, 1) := by decide +kernel
theorem dX12_twins_58 : decode cX12_twins 58 = .ok (.iload 4, 2) := by decide +kernel
theorem dX12_twins_60 : decode cX12_twins 60 = .ok (.invokevirtual 263, 3) := by decide +kernel
theorem dX12_twins_63 : decode cX12_twins 63 = .ok (.aload_n 0, 1) := by decide +kernel
theorem dX12_twins_64 : decode cX12_twins 64 = .ok (.iload 5, 2) := by decide +kernel
theorem dX12_twins_66 : decode cX12_twins 66 = .ok (.invokevirtual 263, 3) := by decide +kernel
theorem dX12_twins_69 : decode cX12_twins 69 = .ok (.if_icmp .ne 24, 3) := by decide +kernel
theorem dX12_twins_72 : decode cX12_twins 72 = .ok (.iload_n 2, 1) := by decide +kernel
theorem dX12_twins_73 : decode cX12_twins 73 = .ok (.iload_n 1, 1) := by decide +kernel
theorem dX12_twins_74 : decode cX12_twins 74 = .ok (.if_icmp .ne 14, 3) := by decide +kernel
theorem dX12_twins_77 : decode cX12_twins 77 = .ok (.bipush 10, 2) := by decide +kernel
theorem dX12_twins_79 : decode cX12_twins 79 = .ok (.iload 4, 2) := by decide +kernel
theorem dX12_twins_81 : decode cX12_twins 81 = .ok (.imul, 1) := by decide +kernel
theorem dX12_twins_82 : decode cX12_twins 82 = .ok (.iload 5, 2) := by decide +kernel
theorem dX12_twins_84 : decode cX12_twins 84 = .ok (.iadd, 1) := by decide +kernel
theorem dX12_twins_85 : decode cX12_twins 85 = .ok (.goto 4, 3) := by decide +kernel
theorem dX12_twins_88 : decode cX12_twins 88 = .ok (.iload_n 3, 1) := by decide +kernel
theorem dX12_twins_89 : decode cX12_twins 89 = .ok (.istore_n 3, 1) := by decide +kernel
theorem dX12_twins_90 : decode cX12_twins 90 = .ok (.iinc 2 1, 3) := by decide +kernel
theorem dX12_twins_93 : decode cX12_twins 93 = .ok (.iinc 5 1, 3) := by decide +kernel
theorem dX12_twins_96 : decode cX12_twins 96 = .ok (.goto (-57), 3) := by decide +kernel
theorem dX12_twins_99 : decode cX12_twins 99 = .ok (.iinc 4 1, 3) := by decide +kernel
theorem dX12_twins_102 : decode cX12_twins 102 = .ok (.goto (-78), 3) := by decide +kernel
theorem dX12_twins_105 : decode cX12_twins 105 = .ok (.iload_n 1, 1) := by decide +kernel
theorem dX12_twins_106 : decode cX12_twins 106 = .ok (.ifCond .ge 7, 3) := by decide +kernel
theorem dX12_twins_109 : decode cX12_twins 109 = .ok (.iload_n 2, 1) := by decide +kernel
theorem dX12_twins_110 : decode cX12_twins 110 = .ok (.goto 4, 3) := by decide +kernel
theorem dX12_twins_113 : decode cX12_twins 113 = .ok (.iload_n 3, 1) := by decide +kernel
theorem dX12_twins_114 : decode cX12_twins 114 = .ok (.ireturn, 1) := by decide +kernel
set_option maxRecDepth 20000 in
theorem ggX12_mayMatch_X12_isOpen : GoodIn wsX12_mayMatch wsX12_isOpen := goodIn_r _ [5, 6, 7, 8, 4, 9, 43, 44, 45, 46, 47, 48, 49, 50, 51, 52, 53, 54, 55, 56, 57, 58, 59, 60, 61, 62, 63, 64, 65, 66, 67, 68, 69, 70, 71, 72, 73, 74, 75, 76, 77, 78, 79, 80, 81, 82, 83, 84, 85, 86, 87] rfl (by decide +kernel)
set_option maxRecDepth 20000 in
theorem gX12_mayMatch_X12_isOpen : GoodIn wsX12_mayMatch (wsV RX12 257 RX12 yX12_isOpen wsX12_isOpen) := goodIn_app (goodIn_of _ (by decide +kernel)) ggX12_mayMatch_X12_isOpen
set_option maxRecDepth 20000 in
theorem ggX12_mayMatch_X12_isBroken : GoodIn wsX12_mayMatch wsX12_isBroken := goodIn_r _ [13, 6, 43, 44, 45, 46, 47, 48, 49, 50, 51, 52, 53, 54, 55, 56, 57, 58, 59, 60, 61, 62, 63, 64, 65, 66, 67, 68, 69, 70, 71, 72, 73, 74, 75, 76, 77, 78, 79, 80, 81, 82, 83, 84, 85, 86, 87] rfl (by decide +kernel)
set_option maxRecDepth 20000 in
theorem gX12_mayMatch_X12_isBroken : GoodIn wsX12_mayMatch (wsV RX12 240 RX12 yX12_isBroken wsX12_isBroken) := goodIn_app (goodIn_of _ (by decide +kernel)) ggX12_mayMatch_X12_isBroken
set_option maxRecDepth 20000 in
theorem ggX12_mayMatch_X12_doesGo : GoodIn wsX12_mayMatch wsX12_doesGo := goodIn_r _ [17, 18, 19, 20, 21, 4, 22, 23, 24, 6, 25, 26, 27, 28, 29, 30, 7, 8, 9, 31, 32, 33, 34, 35, 36, 37, 38, 39, 40, 41, 42, 43, 44, 45, 46, 47, 48, 49, 50, 51, 52, 53, 54, 55, 56, 57, 58, 59, 60, 61, 62, 63, 64, 65, 66, 67, 68, 69, 70, 71, 72, 73, 74, 75, 76, 77, 78, 79, 80, 81, 82, 83, 84, 85, 86, 87] rfl (by decide +kernel)
set_option maxRecDepth 20000 in
theorem gX12_mayMatch_X12_doesGo : GoodIn wsX12_mayMatch (wsV RX12 249 RX12 yX12_doesGo wsX12_doesGo) := goodIn_app (goodIn_of _ (by decide +kernel)) ggX12_mayMatch_X12_doesGo
theorem dX12_mayMatch_0 : decode cX12_mayMatch 0 = .ok (.aload_n 0, 1) := by decide +kernel
theorem dX12_mayMatch_1 : decode cX12_mayMatch 1 = .ok (.iload_n 2, 1) := by decide +kernel
theorem dX12_mayMatch_2 : decode cX12_mayMatch 2 = .ok (.invokevirtual 257, 3) := by decide +kernel
theorem dX12_mayMatch_5 : decode cX12_mayMatch 5 = .ok (.ifCond .ne 24, 3) := by decide +kernel
theorem dX12_mayMatch_8 : decode cX12_mayMatch 8 = .ok (.aload_n 0, 1) := by decide +kernel
theorem dX12_mayMatch_9 : decode cX12_mayMatch 9 = .ok (.iload_n 1, 1) := by decide +kernel
theorem dX12_mayMatch_10 : decode cX12_mayMatch 10 = .ok (.invokevirtual 240, 3) := by decide +kernel
theorem dX12_mayMatch_13 : decode cX12_mayMatch 13 = .ok (.ifCond .ne 16, 3) := by decide +kernel
theorem dX12_mayMatch_16 : decode cX12_mayMatch 16 = .ok (.aload_n 0, 1) := by decide +kernel
theorem dX12_mayMatch_17 : decode cX12_mayMatch 17 = .ok (.iload_n 1, 1) := by decide +kernel
theorem dX12_mayMatch_18 : decode cX12_mayMatch 18 = .ok (.iload_n 2, 1) := by decide +kernel
theorem dX12_mayMatch_19 : decode cX12_mayMatch 19 = .ok (.invokevirtual 249, 3) := by decide +kernel
theorem dX12_mayMatch_22 : decode cX12_mayMatch 22 = .ok (.ifCond .eq 7, 3) := by decide +kernel
theorem dX12_mayMatch_25 : decode cX12_mayMatch 25 = .ok (.iconst 1, 1) := by decide +kernel
theorem dX12_mayMatch_26 : decode cX12_mayMatch 26 = .ok (.goto 4, 3) := by decide +kernel
theorem dX12_mayMatch_29 : decode cX12_mayMatch 29 = .ok (.iconst 0, 1) := by decide +kernel
theorem dX12_mayMatch_30 : decode cX12_mayMatch 30 = .ok (.ireturn, 1) := by decide +kernel
set_option maxRecDepth 20000 in
theorem ggX12_layMost_X12_has : GoodIn wsX12_layMost wsX12_has := goodIn_r _ [7] rfl (by decide +kernel)
set_option maxRecDepth 20000 in
theorem gX12_layMost_X12_has : GoodIn wsX12_layMost (va_wsS RX12 211 yX12_has wsX12_has) := goodIn_app (goodIn_of _ (by decide +kernel)) ggX12_layMost_X12_has
set_option maxRecDepth 20000 in
theorem ggX12_layMost_X12_mayMatch : GoodIn wsX12_layMost wsX12_mayMatch := goodIn_r _ [11, 12, 13, 14, 6, 15, 16, 4, 5, 7, 17, 18, 19, 20, 21, 22, 23, 24, 25, 26, 27, 28, 29, 30, 31, 32, 33, 34, 35, 36, 37, 38, 39, 40, 41, 42, 43, 44, 45, 46, 47, 48, 49, 50, 51, 52, 53, 54, 55, 56, 57, 58, 59, 60, 61, 62, 63, 64, 65, 66, 67, 68, 69, 70, 71, 72, 73, 74, 75, 76, 77, 78, 79, 80, 81, 82, 83, 84, 85, 86, 87, 88, 89, 90, 91, 92, 93, 94] rfl (by decide +kernel)
set_option maxRecDepth 20000 in
theorem gX12_layMost_X12_mayMatch : GoodIn wsX12_layMost (wsV RX12 270 RX12 yX12_mayMatch wsX12_mayMatch) := goodIn_app (goodIn_of _ (by decide +kernel)) ggX12_layMost_X12_mayMatch
theorem dX12_layMost_0 : decode cX12_layMost 0 = .ok (.iconst 0, 1) := by decide +kernel
theorem dX12_layMost_1 : decode cX12_layMost 1 = .ok (.istore_n 1, 1) := by decide +kernel
theorem dX12_layMost_2 : decode cX12_layMost 2 = .ok (.iload_n 1, 1) := by decide +kernel
theorem dX12_layMost_3 : decode cX12_layMost 3 = .ok (.sipush 128, 3) := by decide +kernel
theorem dX12_layMost_6 : decode cX12_layMost 6 = .ok (.if_icmp .ge 25, 3) := by decide +kernel
theorem dX12_layMost_9 : decode cX12_layMost 9 = .ok (.aload_n 0, 1) := by decide +kernel
theorem dX12_layMost_10 : decode cX12_layMost 10 = .ok (.getfield 81, 3) := by decide +kernel
theorem dX12_layMost_13 : decode cX12_layMost 13 = .ok (.sipush 128, 3) := by decide +kernel
theorem dX12_layMost_16 : decode cX12_layMost 16 = .ok (.aload_n 0, 1) := by decide +kernel
theorem dX12_layMost_17 : decode cX12_layMost 17 = .ok (.getfield 145, 3) := by decide +kernel
theorem dX12_layMost_20 : decode cX12_layMost 20 = .ok (.imul, 1) := by decide +kernel
theorem dX12_layMost_21 : decode cX12_layMost 21 = .ok (.iload_n 1, 1) := by decide +kernel
theorem dX12_layMost_22 : decode cX12_layMost 22 = .ok (.iadd, 1) := by decide +kernel
theorem dX12_layMost_23 : decode cX12_layMost 23 = .ok (.iconst 0, 1) := by decide +kernel
theorem dX12_layMost_24 : decode cX12_layMost 24 = .ok (.iastore, 1) := by decide +kernel
theorem dX12_layMost_25 : decode cX12_layMost 25 = .ok (.iinc 1 1, 3) := by decide +kernel
theorem dX12_layMost_28 : decode cX12_layMost 28 = .ok (.goto (-26), 3) := by decide +kernel
theorem dX12_layMost_31 : decode cX12_layMost 31 = .ok (.aload_n 0, 1) := by decide +kernel
theorem dX12_layMost_32 : decode cX12_layMost 32 = .ok (.getfield 145, 3) := by decide +kernel
theorem dX12_layMost_35 : decode cX12_layMost 35 = .ok (.iconst 1, 1) := by decide +kernel
theorem dX12_layMost_36 : decode cX12_layMost 36 = .ok (.isub, 1) := by decide +kernel
theorem dX12_layMost_37 : decode cX12_layMost 37 = .ok (.istore_n 1, 1) := by decide +kernel
theorem dX12_layMost_38 : decode cX12_layMost 38 = .ok (.iload_n 1, 1) := by decide +kernel
theorem dX12_layMost_39 : decode cX12_layMost 39 = .ok (.ifCond .lt 129, 3) := by decide +kernel
theorem dX12_layMost_42 : decode cX12_layMost 42 = .ok (.iconst 0, 1) := by decide +kernel
theorem dX12_layMost_43 : decode cX12_layMost 43 = .ok (.istore_n 2, 1) := by decide +kernel
theorem dX12_layMost_44 : decode cX12_layMost 44 = .ok (.iload_n 2, 1) := by decide +kernel
theorem dX12_layMost_45 : decode cX12_layMost 45 = .ok (.sipush 128, 3) := by decide +kernel
theorem dX12_layMost_48 : decode cX12_layMost 48 = .ok (.if_icmp .ge 114, 3) := by decide +kernel
theorem dX12_layMost_51 : decode cX12_layMost 51 = .ok (.aload_n 0, 1) := by decide +kernel
theorem dX12_layMost_52 : decode cX12_layMost 52 = .ok (.getfield 81, 3) := by decide +kernel
theorem dX12_layMost_55 : decode cX12_layMost 55 = .ok (.sipush 128, 3) := by decide +kernel
theorem dX12_layMost_58 : decode cX12_layMost 58 = .ok (.iload_n 1, 1) := by decide +kernel
theorem dX12_layMost_59 : decode cX12_layMost 59 = .ok (.iconst 1, 1) := by decide +kernel
theorem dX12_layMost_60 : decode cX12_layMost 60 = .ok (.iadd, 1) := by decide +kernel
theorem dX12_layMost_61 : decode cX12_layMost 61 = .ok (.imul, 1) := by decide +kernel
theorem dX12_layMost_62 : decode cX12_layMost 62 = .ok (.iload_n 2, 1) := by decide +kernel
theorem dX12_layMost_63 : decode cX12_layMost 63 = .ok (.iadd, 1) := by decide +kernel
theorem dX12_layMost_64 : decode cX12_layMost 64 = .ok (.iaload, 1) := by decide +kernel
theorem dX12_layMost_65 : decode cX12_layMost 65 = .ok (.istore_n 3, 1) := by decide +kernel
theorem dX12_layMost_66 : decode cX12_layMost 66 = .ok (.iconst 0, 1) := by decide +kernel
theorem dX12_layMost_67 : decode cX12_layMost 67 = .ok (.istore 4, 2) := by decide +kernel
theorem dX12_layMost_69 : decode cX12_layMost 69 = .ok (.iload 4, 2) := by decide +kernel
theorem dX12_layMost_71 : decode cX12_layMost 71 = .ok (.aload_n 0, 1) := by decide +kernel
theorem dX12_layMost_72 : decode cX12_layMost 72 = .ok (.getfield 142, 3) := by decide +kernel
theorem dX12_layMost_75 : decode cX12_layMost 75 = .ok (.if_icmp .ge 68, 3) := by decide +kernel
theorem dX12_layMost_78 : decode cX12_layMost 78 = .ok (.iload_n 2, 1) := by decide +kernel
theorem dX12_layMost_79 : decode cX12_layMost 79 = .ok (.iload 4, 2) := by decide +kernel
theorem dX12_layMost_81 : decode cX12_layMost 81 = .ok (.invokestatic 211, 3) := by decide +kernel
theorem dX12_layMost_84 : decode cX12_layMost 84 = .ok (.ifCond .ne 37, 3) := by decide +kernel
theorem dX12_layMost_87 : decode cX12_layMost 87 = .ok (.aload_n 0, 1) := by decide +kernel
theorem dX12_layMost_88 : decode cX12_layMost 88 = .ok (.iload 4, 2) := by decide +kernel
theorem dX12_layMost_90 : decode cX12_layMost 90 = .ok (.iload_n 1, 1) := by decide +kernel
theorem dX12_layMost_91 : decode cX12_layMost 91 = .ok (.invokevirtual 270, 3) := by decide +kernel
theorem dX12_layMost_94 : decode cX12_layMost 94 = .ok (.ifCond .eq 27, 3) := by decide +kernel
theorem dX12_layMost_97 : decode cX12_layMost 97 = .ok (.iconst 1, 1) := by decide +kernel
theorem dX12_layMost_98 : decode cX12_layMost 98 = .ok (.aload_n 0, 1) := by decide +kernel
theorem dX12_layMost_99 : decode cX12_layMost 99 = .ok (.getfield 81, 3) := by decide +kernel
theorem dX12_layMost_102 : decode cX12_layMost 102 = .ok (.sipush 128, 3) := by decide +kernel
theorem dX12_layMost_105 : decode cX12_layMost 105 = .ok (.iload_n 1, 1) := by decide +kernel
theorem dX12_layMost_106 : decode cX12_layMost 106 = .ok (.iconst 1, 1) := by decide +kernel
theorem dX12_layMost_107 : decode cX12_layMost 107 = .ok (.iadd, 1) := by decide +kernel
theorem dX12_layMost_108 : decode cX12_layMost 108 = .ok (.imul, 1) := by decide +kernel
theorem dX12_layMost_109 : decode cX12_layMost 109 = .ok (.iload_n 2, 1) := by decide +kernel
theorem dX12_layMost_110 : decode cX12_layMost 110 = .ok (.iconst 1, 1) := by decide +kernel
theorem dX12_layMost_111 : decode cX12_layMost 111 = .ok (.iload 4, 2) := by decide +kernel
theorem dX12_layMost_113 : decode cX12_layMost 113 = .ok (.ishl, 1) := by decide +kernel
theorem dX12_layMost_114 : decode cX12_layMost 114 = .ok (.ior, 1) := by decide +kernel
theorem dX12_layMost_115 : decode cX12_layMost 115 = .ok (.iadd, 1) := by decide +kernel
theorem dX12_layMost_116 : decode cX12_layMost 116 = .ok (.iaload, 1) := by decide +kernel
theorem dX12_layMost_117 : decode cX12_layMost 117 = .ok (.iadd, 1) := by decide +kernel
theorem dX12_layMost_118 : decode cX12_layMost 118 = .ok (.goto 4, 3) := by decide +kernel
theorem dX12_layMost_121 : decode cX12_layMost 121 = .ok (.iconst 0, 1) := by decide +kernel
theorem dX12_layMost_122 : decode cX12_layMost 122 = .ok (.istore 5, 2) := by decide +kernel
theorem dX12_layMost_124 : decode cX12_layMost 124 = .ok (.iload 5, 2) := by decide +kernel
theorem dX12_layMost_126 : decode cX12_layMost 126 = .ok (.iload_n 3, 1) := by decide +kernel
theorem dX12_layMost_127 : decode cX12_layMost 127 = .ok (.if_icmp .le 8, 3) := by decide +kernel
theorem dX12_layMost_130 : decode cX12_layMost 130 = .ok (.iload 5, 2) := by decide +kernel
theorem dX12_layMost_132 : decode cX12_layMost 132 = .ok (.goto 4, 3) := by decide +kernel
theorem dX12_layMost_135 : decode cX12_layMost 135 = .ok (.iload_n 3, 1) := by decide +kernel
theorem dX12_layMost_136 : decode cX12_layMost 136 = .ok (.istore_n 3, 1) := by decide +kernel
theorem dX12_layMost_137 : decode cX12_layMost 137 = .ok (.iinc 4 1, 3) := by decide +kernel
theorem dX12_layMost_140 : decode cX12_layMost 140 = .ok (.goto (-71), 3) := by decide +kernel
theorem dX12_layMost_143 : decode cX12_layMost 143 = .ok (.aload_n 0, 1) := by decide +kernel
theorem dX12_layMost_144 : decode cX12_layMost 144 = .ok (.getfield 81, 3) := by decide +kernel
theorem dX12_layMost_147 : decode cX12_layMost 147 = .ok (.sipush 128, 3) := by decide +kernel
theorem dX12_layMost_150 : decode cX12_layMost 150 = .ok (.iload_n 1, 1) := by decide +kernel
theorem dX12_layMost_151 : decode cX12_layMost 151 = .ok (.imul, 1) := by decide +kernel
theorem dX12_layMost_152 : decode cX12_layMost 152 = .ok (.iload_n 2, 1) := by decide +kernel
theorem dX12_layMost_153 : decode cX12_layMost 153 = .ok (.iadd, 1) := by decide +kernel
theorem dX12_layMost_154 : decode cX12_layMost 154 = .ok (.iload_n 3, 1) := by decide +kernel
theorem dX12_layMost_155 : decode cX12_layMost 155 = .ok (.iastore, 1) := by decide +kernel
theorem dX12_layMost_156 : decode cX12_layMost 156 = .ok (.iinc 2 1, 3) := by decide +kernel
theorem dX12_layMost_159 : decode cX12_layMost 159 = .ok (.goto (-115), 3) := by decide +kernel
theorem dX12_layMost_162 : decode cX12_layMost 162 = .ok (.iinc 1 (-1), 3) := by decide +kernel
theorem dX12_layMost_165 : decode cX12_layMost 165 = .ok (.goto (-127), 3) := by decide +kernel
theorem dX12_layMost_168 : decode cX12_layMost 168 = .ok (.return_, 1) := by decide +kernel
set_option maxRecDepth 20000 in
theorem ggX12_firstKey_X12_has : GoodIn wsX12_firstKey wsX12_has := goodIn_r _ [6] rfl (by decide +kernel)
set_option maxRecDepth 20000 in
theorem gX12_firstKey_X12_has : GoodIn wsX12_firstKey (va_wsS RX12 211 yX12_has wsX12_has) := goodIn_app (goodIn_of _ (by decide +kernel)) ggX12_firstKey_X12_has
set_option maxRecDepth 20000 in
theorem ggX12_firstKey_X12_mayMatch : GoodIn wsX12_firstKey wsX12_mayMatch := goodIn_r _ [10, 11, 12, 13, 5, 14, 15, 3, 4, 6, 16, 17, 18, 19, 20, 21, 22, 23, 24, 25, 26, 27, 28, 29, 30, 31, 32, 33, 34, 35, 36, 37, 38, 39, 40, 41, 42, 43, 44, 45, 46, 47, 48, 49, 50, 51, 52, 53, 54, 55, 56, 57, 58, 59, 60, 61, 62, 63, 64, 65, 66, 67, 68, 69, 70, 71, 72, 73, 74, 75, 76, 77, 78, 79, 80, 81, 82, 83, 84, 85, 86, 87, 88, 89, 90, 91, 92, 93] rfl (by decide +kernel)
set_option maxRecDepth 20000 in
theorem gX12_firstKey_X12_mayMatch : GoodIn wsX12_firstKey (wsV RX12 270 RX12 yX12_mayMatch wsX12_mayMatch) := goodIn_app (goodIn_of _ (by decide +kernel)) ggX12_firstKey_X12_mayMatch
theorem dX12_firstKey_0 : decode cX12_firstKey 0 = .ok (.iconst 0, 1) := by decide +kernel
theorem dX12_firstKey_1 : decode cX12_firstKey 1 = .ok (.istore_n 3, 1) := by decide +kernel
theorem dX12_firstKey_2 : decode cX12_firstKey 2 = .ok (.iload_n 3, 1) := by decide +kernel
theorem dX12_firstKey_3 : decode cX12_firstKey 3 = .ok (.aload_n 0, 1) := by decide +kernel
theorem dX12_firstKey_4 : decode cX12_firstKey 4 = .ok (.getfield 142, 3) := by decide +kernel
theorem dX12_firstKey_7 : decode cX12_firstKey 7 = .ok (.if_icmp .ge 63, 3) := by decide +kernel
theorem dX12_firstKey_10 : decode cX12_firstKey 10 = .ok (.iload_n 2, 1) := by decide +kernel
theorem dX12_firstKey_11 : decode cX12_firstKey 11 = .ok (.iload_n 3, 1) := by decide +kernel
theorem dX12_firstKey_12 : decode cX12_firstKey 12 = .ok (.invokestatic 211, 3) := by decide +kernel
theorem dX12_firstKey_15 : decode cX12_firstKey 15 = .ok (.ifCond .ne 49, 3) := by decide +kernel
theorem dX12_firstKey_18 : decode cX12_firstKey 18 = .ok (.aload_n 0, 1) := by decide +kernel
theorem dX12_firstKey_19 : decode cX12_firstKey 19 = .ok (.iload_n 3, 1) := by decide +kernel
theorem dX12_firstKey_20 : decode cX12_firstKey 20 = .ok (.iload_n 1, 1) := by decide +kernel
theorem dX12_firstKey_21 : decode cX12_firstKey 21 = .ok (.invokevirtual 270, 3) := by decide +kernel
theorem dX12_firstKey_24 : decode cX12_firstKey 24 = .ok (.ifCond .eq 40, 3) := by decide +kernel
theorem dX12_firstKey_27 : decode cX12_firstKey 27 = .ok (.iconst 1, 1) := by decide +kernel
theorem dX12_firstKey_28 : decode cX12_firstKey 28 = .ok (.aload_n 0, 1) := by decide +kernel
theorem dX12_firstKey_29 : decode cX12_firstKey 29 = .ok (.getfield 81, 3) := by decide +kernel
theorem dX12_firstKey_32 : decode cX12_firstKey 32 = .ok (.sipush 128, 3) := by decide +kernel
theorem dX12_firstKey_35 : decode cX12_firstKey 35 = .ok (.iload_n 1, 1) := by decide +kernel
theorem dX12_firstKey_36 : decode cX12_firstKey 36 = .ok (.iconst 1, 1) := by decide +kernel
theorem dX12_firstKey_37 : decode cX12_firstKey 37 = .ok (.iadd, 1) := by decide +kernel
theorem dX12_firstKey_38 : decode cX12_firstKey 38 = .ok (.imul, 1) := by decide +kernel
theorem dX12_firstKey_39 : decode cX12_firstKey 39 = .ok (.iload_n 2, 1) := by decide +kernel
theorem dX12_firstKey_40 : decode cX12_firstKey 40 = .ok (.iconst 1, 1) := by decide +kernel
theorem dX12_firstKey_41 : decode cX12_firstKey 41 = .ok (.iload_n 3, 1) := by decide +kernel
theorem dX12_firstKey_42 : decode cX12_firstKey 42 = .ok (.ishl, 1) := by decide +kernel
theorem dX12_firstKey_43 : decode cX12_firstKey 43 = .ok (.ior, 1) := by decide +kernel
theorem dX12_firstKey_44 : decode cX12_firstKey 44 = .ok (.iadd, 1) := by decide +kernel
theorem dX12_firstKey_45 : decode cX12_firstKey 45 = .ok (.iaload, 1) := by decide +kernel
theorem dX12_firstKey_46 : decode cX12_firstKey 46 = .ok (.iadd, 1) := by decide +kernel
theorem dX12_firstKey_47 : decode cX12_firstKey 47 = .ok (.aload_n 0, 1) := by decide +kernel
theorem dX12_firstKey_48 : decode cX12_firstKey 48 = .ok (.getfield 81, 3) := by decide +kernel
theorem dX12_firstKey_51 : decode cX12_firstKey 51 = .ok (.sipush 128, 3) := by decide +kernel
theorem dX12_firstKey_54 : decode cX12_firstKey 54 = .ok (.iload_n 1, 1) := by decide +kernel
theorem dX12_firstKey_55 : decode cX12_firstKey 55 = .ok (.imul, 1) := by decide +kernel
theorem dX12_firstKey_56 : decode cX12_firstKey 56 = .ok (.iload_n 2, 1) := by decide +kernel
theorem dX12_firstKey_57 : decode cX12_firstKey 57 = .ok (.iadd, 1) := by decide +kernel
theorem dX12_firstKey_58 : decode cX12_firstKey 58 = .ok (.iaload, 1) := by decide +kernel
theorem dX12_firstKey_59 : decode cX12_firstKey 59 = .ok (.if_icmp .ne 5, 3) := by decide +kernel
theorem dX12_firstKey_62 : decode cX12_firstKey 62 = .ok (.iload_n 3, 1) := by decide +kernel
theorem dX12_firstKey_63 : decode cX12_firstKey 63 = .ok (.ireturn, 1) := by decide +kernel
theorem dX12_firstKey_64 : decode cX12_firstKey 64 = .ok (.iinc 3 1, 3) := by decide +kernel
theorem dX12_firstKey_67 : decode cX12_firstKey 67 = .ok (.goto (-65), 3) := by decide +kernel
theorem dX12_firstKey_70 : decode cX12_firstKey 70 = .ok (.iconst (-1), 1) := by decide +kernel
theorem dX12_firstKey_71 : decode cX12_firstKey 71 = .ok (.ireturn, 1) := by decide +kernel
set_option maxRecDepth 20000 in
theorem ggX12_match_X12_isLock : GoodIn wsX12_match wsX12_isLock := goodIn_r _ [6, 7, 8, 9, 5, 10, 65, 66, 67, 68, 69, 70, 71, 72, 73, 74, 75, 76, 77, 78, 79, 80, 81, 82, 83, 84, 85, 86, 87, 88, 89, 90, 91, 92, 93, 94, 95, 96, 97, 98, 99, 100, 101, 102, 103, 104, 105, 106, 107, 108, 109] rfl (by decide +kernel)
set_option maxRecDepth 20000 in
theorem gX12_match_X12_isLock : GoodIn wsX12_match (wsV RX12 243 RX12 yX12_isLock wsX12_isLock) := goodIn_app (goodIn_of _ (by decide +kernel)) ggX12_match_X12_isLock
set_option maxRecDepth 20000 in
theorem ggX12_match_X12_layMost : GoodIn wsX12_match wsX12_layMost := goodIn_r _ [14, 1, 7, 15, 16, 17, 5, 18, 19, 20, 21, 22, 23, 24, 25, 26, 27, 28, 29, 30, 31, 32, 33, 34, 35, 36, 37, 38, 39, 40, 41, 42, 43, 44, 45, 46, 47, 48, 49, 50, 51, 52, 53, 54, 55, 56, 57, 58, 59, 60, 65, 66, 67, 68, 69, 70, 71, 72, 73, 74, 75, 76, 77, 78, 79, 80, 81, 82, 83, 84, 85, 86, 87, 88, 89, 90, 91, 92, 93, 94, 95, 96, 97, 98, 99, 100, 101, 102, 103, 104, 105, 106, 107, 108, 109] rfl (by decide +kernel)
set_option maxRecDepth 20000 in
theorem gX12_match_X12_layMost : GoodIn wsX12_match (wsV RX12 273 RX12 yX12_layMost wsX12_layMost) := goodIn_app (goodIn_of _ (by decide +kernel)) ggX12_match_X12_layMost
set_option maxRecDepth 20000 in
theorem ggX12_match_X12_firstKey : GoodIn wsX12_match wsX12_firstKey := goodIn_r _ [64, 15, 1, 16, 17, 5, 18, 19, 20, 21, 22, 23, 24, 25, 26, 27, 28, 29, 30, 31, 32, 33, 34, 35, 36, 37, 38, 39, 40, 41, 42, 43, 44, 45, 46, 47, 48, 49, 50, 51, 52, 53, 54, 55, 56, 57, 58, 59, 60, 65, 66, 67, 68, 69, 70, 71, 72, 73, 74, 75, 76, 77, 78, 79, 80, 81, 82, 83, 84, 85, 86, 87, 88, 89, 90, 91, 92, 93, 94, 95, 96, 97, 98, 99, 100, 101, 102, 103, 104, 105, 106, 107, 108, 109] rfl (by decide +kernel)
set_option maxRecDepth 20000 in
theorem gX12_match_X12_firstKey : GoodIn wsX12_match (wsV RX12 276 RX12 yX12_firstKey wsX12_firstKey) := goodIn_app (goodIn_of _ (by decide +kernel)) ggX12_match_X12_firstKey
theorem dX12_match_0 : decode cX12_match 0 = .ok (.iload_n 1, 1) := by decide +kernel
theorem dX12_match_1 : decode cX12_match 1 = .ok (.iconst (-1), 1) := by decide +kernel
theorem dX12_match_2 : decode cX12_match 2 = .ok (.if_icmp .eq 14, 3) := by decide +kernel
theorem dX12_match_5 : decode cX12_match 5 = .ok (.aload_n 0, 1) := by decide +kernel
theorem dX12_match_6 : decode cX12_match 6 = .ok (.iload_n 1, 1) := by decide +kernel
theorem dX12_match_7 : decode cX12_match 7 = .ok (.invokevirtual 243, 3) := by decide +kernel
theorem dX12_match_10 : decode cX12_match 10 = .ok (.ifCond .ne 6, 3) := by decide +kernel
theorem dX12_match_13 : decode cX12_match 13 = .ok (.bipush (-2), 2) := by decide +kernel
theorem dX12_match_15 : decode cX12_match 15 = .ok (.ireturn, 1) := by decide +kernel
theorem dX12_match_16 : decode cX12_match 16 = .ok (.aload_n 0, 1) := by decide +kernel
theorem dX12_match_17 : decode cX12_match 17 = .ok (.invokevirtual 273, 3) := by decide +kernel
theorem dX12_match_20 : decode cX12_match 20 = .ok (.iload_n 1, 1) := by decide +kernel
theorem dX12_match_21 : decode cX12_match 21 = .ok (.iconst (-1), 1) := by decide +kernel
theorem dX12_match_22 : decode cX12_match 22 = .ok (.if_icmp .ne 10, 3) := by decide +kernel
theorem dX12_match_25 : decode cX12_match 25 = .ok (.aload_n 0, 1) := by decide +kernel
theorem dX12_match_26 : decode cX12_match 26 = .ok (.getfield 81, 3) := by decide +kernel
theorem dX12_match_29 : decode cX12_match 29 = .ok (.iconst 0, 1) := by decide +kernel
theorem dX12_match_30 : decode cX12_match 30 = .ok (.iaload, 1) := by decide +kernel
theorem dX12_match_31 : decode cX12_match 31 = .ok (.ireturn, 1) := by decide +kernel
theorem dX12_match_32 : decode cX12_match 32 = .ok (.iconst 0, 1) := by decide +kernel
theorem dX12_match_33 : decode cX12_match 33 = .ok (.istore_n 2, 1) := by decide +kernel
theorem dX12_match_34 : decode cX12_match 34 = .ok (.iconst (-1), 1) := by decide +kernel
theorem dX12_match_35 : decode cX12_match 35 = .ok (.istore_n 3, 1) := by decide +kernel
theorem dX12_match_36 : decode cX12_match 36 = .ok (.iconst 0, 1) := by decide +kernel
theorem dX12_match_37 : decode cX12_match 37 = .ok (.istore 4, 2) := by decide +kernel
theorem dX12_match_39 : decode cX12_match 39 = .ok (.iload 4, 2) := by decide +kernel
theorem dX12_match_41 : decode cX12_match 41 = .ok (.iload_n 1, 1) := by decide +kernel
theorem dX12_match_42 : decode cX12_match 42 = .ok (.if_icmp .gt 32, 3) := by decide +kernel
theorem dX12_match_45 : decode cX12_match 45 = .ok (.aload_n 0, 1) := by decide +kernel
theorem dX12_match_46 : decode cX12_match 46 = .ok (.iload 4, 2) := by decide +kernel
theorem dX12_match_48 : decode cX12_match 48 = .ok (.iload_n 2, 1) := by decide +kernel
theorem dX12_match_49 : decode cX12_match 49 = .ok (.invokevirtual 276, 3) := by decide +kernel
theorem dX12_match_52 : decode cX12_match 52 = .ok (.istore_n 3, 1) := by decide +kernel
theorem dX12_match_53 : decode cX12_match 53 = .ok (.iload_n 2, 1) := by decide +kernel
theorem dX12_match_54 : decode cX12_match 54 = .ok (.iload_n 3, 1) := by decide +kernel
theorem dX12_match_55 : decode cX12_match 55 = .ok (.iconst (-1), 1) := by decide +kernel
theorem dX12_match_56 : decode cX12_match 56 = .ok (.if_icmp .ne 7, 3) := by decide +kernel
theorem dX12_match_59 : decode cX12_match 59 = .ok (.iconst 0, 1) := by decide +kernel
theorem dX12_match_60 : decode cX12_match 60 = .ok (.goto 6, 3) := by decide +kernel
theorem dX12_match_63 : decode cX12_match 63 = .ok (.iconst 1, 1) := by decide +kernel
theorem dX12_match_64 : decode cX12_match 64 = .ok (.iload_n 3, 1) := by decide +kernel
theorem dX12_match_65 : decode cX12_match 65 = .ok (.ishl, 1) := by decide +kernel
theorem dX12_match_66 : decode cX12_match 66 = .ok (.ior, 1) := by decide +kernel
theorem dX12_match_67 : decode cX12_match 67 = .ok (.istore_n 2, 1) := by decide +kernel
theorem dX12_match_68 : decode cX12_match 68 = .ok (.iinc 4 1, 3) := by decide +kernel
theorem dX12_match_71 : decode cX12_match 71 = .ok (.goto (-32), 3) := by decide +kernel
theorem dX12_match_74 : decode cX12_match 74 = .ok (.iload_n 3, 1) := by decide +kernel
theorem dX12_match_75 : decode cX12_match 75 = .ok (.ireturn, 1) := by decide +kernel
set_option maxRecDepth 20000 in
theorem ggX12_shortestTo_X12_apart : GoodIn wsX12_shortestTo wsX12_apart := goodIn_r _ [9] rfl (by decide +kernel)
set_option maxRecDepth 20000 in
theorem gX12_shortestTo_X12_apart : GoodIn wsX12_shortestTo (va_wsS RX12 254 yX12_apart wsX12_apart) := goodIn_app (goodIn_of _ (by decide +kernel)) ggX12_shortestTo_X12_apart
set_option maxRecDepth 20000 in
theorem ggX12_shortestTo_X12_has : GoodIn wsX12_shortestTo wsX12_has := goodIn_r _ [12] rfl (by decide +kernel)
set_option maxRecDepth 20000 in
theorem gX12_shortestTo_X12_has : GoodIn wsX12_shortestTo (va_wsS RX12 211 yX12_has wsX12_has) := goodIn_app (goodIn_of _ (by decide +kernel)) ggX12_shortestTo_X12_has
theorem dX12_shortestTo_0 : decode cX12_shortestTo 0 = .ok (.iload_n 1, 1) := by decide +kernel
theorem dX12_shortestTo_1 : decode cX12_shortestTo 1 = .ok (.iconst 1, 1) := by decide +kernel
theorem dX12_shortestTo_2 : decode cX12_shortestTo 2 = .ok (.iload_n 2, 1) := by decide +kernel
theorem dX12_shortestTo_3 : decode cX12_shortestTo 3 = .ok (.ishl, 1) := by decide +kernel
theorem dX12_shortestTo_4 : decode cX12_shortestTo 4 = .ok (.iconst (-1), 1) := by decide +kernel
theorem dX12_shortestTo_5 : decode cX12_shortestTo 5 = .ok (.ixor, 1) := by decide +kernel
theorem dX12_shortestTo_6 : decode cX12_shortestTo 6 = .ok (.iand, 1) := by decide +kernel
theorem dX12_shortestTo_7 : decode cX12_shortestTo 7 = .ok (.istore 4, 2) := by decide +kernel
theorem dX12_shortestTo_9 : decode cX12_shortestTo 9 = .ok (.iload 4, 2) := by decide +kernel
theorem dX12_shortestTo_11 : decode cX12_shortestTo 11 = .ok (.ifCond .ne 24, 3) := by decide +kernel
theorem dX12_shortestTo_14 : decode cX12_shortestTo 14 = .ok (.aload_n 0, 1) := by decide +kernel
theorem dX12_shortestTo_15 : decode cX12_shortestTo 15 = .ok (.getfield 7, 3) := by decide +kernel
theorem dX12_shortestTo_18 : decode cX12_shortestTo 18 = .ok (.bipush 17, 2) := by decide +kernel
theorem dX12_shortestTo_20 : decode cX12_shortestTo 20 = .ok (.iload_n 3, 1) := by decide +kernel
theorem dX12_shortestTo_21 : decode cX12_shortestTo 21 = .ok (.iadd, 1) := by decide +kernel
theorem dX12_shortestTo_22 : decode cX12_shortestTo 22 = .ok (.iaload, 1) := by decide +kernel
theorem dX12_shortestTo_23 : decode cX12_shortestTo 23 = .ok (.aload_n 0, 1) := by decide +kernel
theorem dX12_shortestTo_24 : decode cX12_shortestTo 24 = .ok (.getfield 26, 3) := by decide +kernel
theorem dX12_shortestTo_27 : decode cX12_shortestTo 27 = .ok (.iload_n 2, 1) := by decide +kernel
theorem dX12_shortestTo_28 : decode cX12_shortestTo 28 = .ok (.iaload, 1) := by decide +kernel
theorem dX12_shortestTo_29 : decode cX12_shortestTo 29 = .ok (.invokestatic 254, 3) := by decide +kernel
theorem dX12_shortestTo_32 : decode cX12_shortestTo 32 = .ok (.iconst 2, 1) := by decide +kernel
theorem dX12_shortestTo_33 : decode cX12_shortestTo 33 = .ok (.iadd, 1) := by decide +kernel
theorem dX12_shortestTo_34 : decode cX12_shortestTo 34 = .ok (.ireturn, 1) := by decide +kernel
theorem dX12_shortestTo_35 : decode cX12_shortestTo 35 = .ok (.ldc_w 279, 3) := by decide +kernel
theorem dX12_shortestTo_38 : decode cX12_shortestTo 38 = .ok (.istore 5, 2) := by decide +kernel
theorem dX12_shortestTo_40 : decode cX12_shortestTo 40 = .ok (.iconst 0, 1) := by decide +kernel
theorem dX12_shortestTo_41 : decode cX12_shortestTo 41 = .ok (.istore 6, 2) := by decide +kernel
theorem dX12_shortestTo_43 : decode cX12_shortestTo 43 = .ok (.iload 6, 2) := by decide +kernel
theorem dX12_shortestTo_45 : decode cX12_shortestTo 45 = .ok (.aload_n 0, 1) := by decide +kernel
theorem dX12_shortestTo_46 : decode cX12_shortestTo 46 = .ok (.getfield 145, 3) := by decide +kernel
theorem dX12_shortestTo_49 : decode cX12_shortestTo 49 = .ok (.if_icmp .ge 75, 3) := by decide +kernel
theorem dX12_shortestTo_52 : decode cX12_shortestTo 52 = .ok (.iload 4, 2) := by decide +kernel
theorem dX12_shortestTo_54 : decode cX12_shortestTo 54 = .ok (.iload 6, 2) := by decide +kernel
theorem dX12_shortestTo_56 : decode cX12_shortestTo 56 = .ok (.invokestatic 211, 3) := by decide +kernel
theorem dX12_shortestTo_59 : decode cX12_shortestTo 59 = .ok (.ifCond .eq 38, 3) := by decide +kernel
theorem dX12_shortestTo_62 : decode cX12_shortestTo 62 = .ok (.aload_n 0, 1) := by decide +kernel
theorem dX12_shortestTo_63 : decode cX12_shortestTo 63 = .ok (.getfield 84, 3) := by decide +kernel
theorem dX12_shortestTo_66 : decode cX12_shortestTo 66 = .ok (.bipush 7, 2) := by decide +kernel
theorem dX12_shortestTo_68 : decode cX12_shortestTo 68 = .ok (.iload 4, 2) := by decide +kernel
theorem dX12_shortestTo_70 : decode cX12_shortestTo 70 = .ok (.imul, 1) := by decide +kernel
theorem dX12_shortestTo_71 : decode cX12_shortestTo 71 = .ok (.iload 6, 2) := by decide +kernel
theorem dX12_shortestTo_73 : decode cX12_shortestTo 73 = .ok (.iadd, 1) := by decide +kernel
theorem dX12_shortestTo_74 : decode cX12_shortestTo 74 = .ok (.iaload, 1) := by decide +kernel
theorem dX12_shortestTo_75 : decode cX12_shortestTo 75 = .ok (.aload_n 0, 1) := by decide +kernel
theorem dX12_shortestTo_76 : decode cX12_shortestTo 76 = .ok (.getfield 26, 3) := by decide +kernel
theorem dX12_shortestTo_79 : decode cX12_shortestTo 79 = .ok (.iload 6, 2) := by decide +kernel
theorem dX12_shortestTo_81 : decode cX12_shortestTo 81 = .ok (.iaload, 1) := by decide +kernel
theorem dX12_shortestTo_82 : decode cX12_shortestTo 82 = .ok (.aload_n 0, 1) := by decide +kernel
theorem dX12_shortestTo_83 : decode cX12_shortestTo 83 = .ok (.getfield 26, 3) := by decide +kernel
theorem dX12_shortestTo_86 : decode cX12_shortestTo 86 = .ok (.iload_n 2, 1) := by decide +kernel
theorem dX12_shortestTo_87 : decode cX12_shortestTo 87 = .ok (.iaload, 1) := by decide +kernel
theorem dX12_shortestTo_88 : decode cX12_shortestTo 88 = .ok (.invokestatic 254, 3) := by decide +kernel
theorem dX12_shortestTo_91 : decode cX12_shortestTo 91 = .ok (.iadd, 1) := by decide +kernel
theorem dX12_shortestTo_92 : decode cX12_shortestTo 92 = .ok (.iconst 2, 1) := by decide +kernel
theorem dX12_shortestTo_93 : decode cX12_shortestTo 93 = .ok (.iadd, 1) := by decide +kernel
theorem dX12_shortestTo_94 : decode cX12_shortestTo 94 = .ok (.goto 6, 3) := by decide +kernel
theorem dX12_shortestTo_97 : decode cX12_shortestTo 97 = .ok (.ldc_w 279, 3) := by decide +kernel
theorem dX12_shortestTo_100 : decode cX12_shortestTo 100 = .ok (.istore 7, 2) := by decide +kernel
theorem dX12_shortestTo_102 : decode cX12_shortestTo 102 = .ok (.iload 7, 2) := by decide +kernel
theorem dX12_shortestTo_104 : decode cX12_shortestTo 104 = .ok (.iload 5, 2) := by decide +kernel
theorem dX12_shortestTo_106 : decode cX12_shortestTo 106 = .ok (.if_icmp .ge 8, 3) := by decide +kernel
theorem dX12_shortestTo_109 : decode cX12_shortestTo 109 = .ok (.iload 7, 2) := by decide +kernel
theorem dX12_shortestTo_111 : decode cX12_shortestTo 111 = .ok (.goto 5, 3) := by decide +kernel
theorem dX12_shortestTo_114 : decode cX12_shortestTo 114 = .ok (.iload 5, 2) := by decide +kernel
theorem dX12_shortestTo_116 : decode cX12_shortestTo 116 = .ok (.istore 5, 2) := by decide +kernel
theorem dX12_shortestTo_118 : decode cX12_shortestTo 118 = .ok (.iinc 6 1, 3) := by decide +kernel
theorem dX12_shortestTo_121 : decode cX12_shortestTo 121 = .ok (.goto (-78), 3) := by decide +kernel
theorem dX12_shortestTo_124 : decode cX12_shortestTo 124 = .ok (.iload 5, 2) := by decide +kernel
theorem dX12_shortestTo_126 : decode cX12_shortestTo 126 = .ok (.ireturn, 1) := by decide +kernel
set_option maxRecDepth 20000 in
theorem ggX12_layAlone_X12_has : GoodIn wsX12_layAlone wsX12_has := goodIn_r _ [9] rfl (by decide +kernel)
set_option maxRecDepth 20000 in
theorem gX12_layAlone_X12_has : GoodIn wsX12_layAlone (va_wsS RX12 211 yX12_has wsX12_has) := goodIn_app (goodIn_of _ (by decide +kernel)) ggX12_layAlone_X12_has
set_option maxRecDepth 20000 in
theorem ggX12_layAlone_X12_shortestTo : GoodIn wsX12_layAlone wsX12_shortestTo := goodIn_r _ [13, 5, 14, 3, 2, 4, 15, 16, 8, 17, 6, 7, 9, 18, 19, 20, 21, 22, 23, 24, 25, 26, 27, 28, 29, 30, 31, 32, 33, 34, 35, 36, 37, 38, 39, 40, 41, 42, 43, 44, 45, 46, 47, 48, 49, 50, 51, 52, 53, 54, 55, 56, 57, 58, 59, 60, 61, 62] rfl (by decide +kernel)
set_option maxRecDepth 20000 in
theorem gX12_layAlone_X12_shortestTo : GoodIn wsX12_layAlone (wsV RX12 280 RX12 yX12_shortestTo wsX12_shortestTo) := goodIn_app (goodIn_of _ (by decide +kernel)) ggX12_layAlone_X12_shortestTo
theorem dX12_layAlone_0 : decode cX12_layAlone 0 = .ok (.aload_n 0, 1) := by decide +kernel
theorem dX12_layAlone_1 : decode cX12_layAlone 1 = .ok (.getfield 87, 3) := by decide +kernel
theorem dX12_layAlone_4 : decode cX12_layAlone 4 = .ok (.iconst 0, 1) := by decide +kernel
theorem dX12_layAlone_5 : decode cX12_layAlone 5 = .ok (.iconst 0, 1) := by decide +kernel
theorem dX12_layAlone_6 : decode cX12_layAlone 6 = .ok (.iastore, 1) := by decide +kernel
theorem dX12_layAlone_7 : decode cX12_layAlone 7 = .ok (.iconst 1, 1) := by decide +kernel
theorem dX12_layAlone_8 : decode cX12_layAlone 8 = .ok (.istore_n 2, 1) := by decide +kernel
theorem dX12_layAlone_9 : decode cX12_layAlone 9 = .ok (.iload_n 2, 1) := by decide +kernel
theorem dX12_layAlone_10 : decode cX12_layAlone 10 = .ok (.iconst 1, 1) := by decide +kernel
theorem dX12_layAlone_11 : decode cX12_layAlone 11 = .ok (.aload_n 0, 1) := by decide +kernel
theorem dX12_layAlone_12 : decode cX12_layAlone 12 = .ok (.getfield 145, 3) := by decide +kernel
theorem dX12_layAlone_15 : decode cX12_layAlone 15 = .ok (.ishl, 1) := by decide +kernel
theorem dX12_layAlone_16 : decode cX12_layAlone 16 = .ok (.if_icmp .ge 117, 3) := by decide +kernel
theorem dX12_layAlone_19 : decode cX12_layAlone 19 = .ok (.aload_n 0, 1) := by decide +kernel
theorem dX12_layAlone_20 : decode cX12_layAlone 20 = .ok (.getfield 87, 3) := by decide +kernel
theorem dX12_layAlone_23 : decode cX12_layAlone 23 = .ok (.iload_n 2, 1) := by decide +kernel
theorem dX12_layAlone_24 : decode cX12_layAlone 24 = .ok (.ldc_w 279, 3) := by decide +kernel
theorem dX12_layAlone_27 : decode cX12_layAlone 27 = .ok (.iastore, 1) := by decide +kernel
theorem dX12_layAlone_28 : decode cX12_layAlone 28 = .ok (.iconst 0, 1) := by decide +kernel
theorem dX12_layAlone_29 : decode cX12_layAlone 29 = .ok (.istore_n 3, 1) := by decide +kernel
theorem dX12_layAlone_30 : decode cX12_layAlone 30 = .ok (.iload_n 3, 1) := by decide +kernel
theorem dX12_layAlone_31 : decode cX12_layAlone 31 = .ok (.aload_n 0, 1) := by decide +kernel
theorem dX12_layAlone_32 : decode cX12_layAlone 32 = .ok (.getfield 145, 3) := by decide +kernel
theorem dX12_layAlone_35 : decode cX12_layAlone 35 = .ok (.if_icmp .ge 92, 3) := by decide +kernel
theorem dX12_layAlone_38 : decode cX12_layAlone 38 = .ok (.aload_n 0, 1) := by decide +kernel
theorem dX12_layAlone_39 : decode cX12_layAlone 39 = .ok (.getfield 84, 3) := by decide +kernel
theorem dX12_layAlone_42 : decode cX12_layAlone 42 = .ok (.bipush 7, 2) := by decide +kernel
theorem dX12_layAlone_44 : decode cX12_layAlone 44 = .ok (.iload_n 2, 1) := by decide +kernel
theorem dX12_layAlone_45 : decode cX12_layAlone 45 = .ok (.imul, 1) := by decide +kernel
theorem dX12_layAlone_46 : decode cX12_layAlone 46 = .ok (.iload_n 3, 1) := by decide +kernel
theorem dX12_layAlone_47 : decode cX12_layAlone 47 = .ok (.iadd, 1) := by decide +kernel
theorem dX12_layAlone_48 : decode cX12_layAlone 48 = .ok (.iload_n 2, 1) := by decide +kernel
theorem dX12_layAlone_49 : decode cX12_layAlone 49 = .ok (.iload_n 3, 1) := by decide +kernel
theorem dX12_layAlone_50 : decode cX12_layAlone 50 = .ok (.invokestatic 211, 3) := by decide +kernel
theorem dX12_layAlone_53 : decode cX12_layAlone 53 = .ok (.ifCond .eq 13, 3) := by decide +kernel
theorem dX12_layAlone_56 : decode cX12_layAlone 56 = .ok (.aload_n 0, 1) := by decide +kernel
theorem dX12_layAlone_57 : decode cX12_layAlone 57 = .ok (.iload_n 2, 1) := by decide +kernel
theorem dX12_layAlone_58 : decode cX12_layAlone 58 = .ok (.iload_n 3, 1) := by decide +kernel
theorem dX12_layAlone_59 : decode cX12_layAlone 59 = .ok (.iload_n 1, 1) := by decide +kernel
theorem dX12_layAlone_60 : decode cX12_layAlone 60 = .ok (.invokevirtual 280, 3) := by decide +kernel
theorem dX12_layAlone_63 : decode cX12_layAlone 63 = .ok (.goto 6, 3) := by decide +kernel
theorem dX12_layAlone_66 : decode cX12_layAlone 66 = .ok (.ldc_w 279, 3) := by decide +kernel
theorem dX12_layAlone_69 : decode cX12_layAlone 69 = .ok (.iastore, 1) := by decide +kernel
theorem dX12_layAlone_70 : decode cX12_layAlone 70 = .ok (.aload_n 0, 1) := by decide +kernel
theorem dX12_layAlone_71 : decode cX12_layAlone 71 = .ok (.getfield 7, 3) := by decide +kernel
theorem dX12_layAlone_74 : decode cX12_layAlone 74 = .ok (.bipush 20, 2) := by decide +kernel
theorem dX12_layAlone_76 : decode cX12_layAlone 76 = .ok (.iload_n 1, 1) := by decide +kernel
theorem dX12_layAlone_77 : decode cX12_layAlone 77 = .ok (.iadd, 1) := by decide +kernel
theorem dX12_layAlone_78 : decode cX12_layAlone 78 = .ok (.iaload, 1) := by decide +kernel
theorem dX12_layAlone_79 : decode cX12_layAlone 79 = .ok (.aload_n 0, 1) := by decide +kernel
theorem dX12_layAlone_80 : decode cX12_layAlone 80 = .ok (.getfield 84, 3) := by decide +kernel
theorem dX12_layAlone_83 : decode cX12_layAlone 83 = .ok (.bipush 7, 2) := by decide +kernel
theorem dX12_layAlone_85 : decode cX12_layAlone 85 = .ok (.iload_n 2, 1) := by decide +kernel
theorem dX12_layAlone_86 : decode cX12_layAlone 86 = .ok (.imul, 1) := by decide +kernel
theorem dX12_layAlone_87 : decode cX12_layAlone 87 = .ok (.iload_n 3, 1) := by decide +kernel
theorem dX12_layAlone_88 : decode cX12_layAlone 88 = .ok (.iadd, 1) := by decide +kernel
theorem dX12_layAlone_89 : decode cX12_layAlone 89 = .ok (.iaload, 1) := by decide +kernel
theorem dX12_layAlone_90 : decode cX12_layAlone 90 = .ok (.iadd, 1) := by decide +kernel
theorem dX12_layAlone_91 : decode cX12_layAlone 91 = .ok (.istore 4, 2) := by decide +kernel
theorem dX12_layAlone_93 : decode cX12_layAlone 93 = .ok (.aload_n 0, 1) := by decide +kernel
theorem dX12_layAlone_94 : decode cX12_layAlone 94 = .ok (.getfield 87, 3) := by decide +kernel
theorem dX12_layAlone_97 : decode cX12_layAlone 97 = .ok (.iload_n 2, 1) := by decide +kernel
theorem dX12_layAlone_98 : decode cX12_layAlone 98 = .ok (.iload 4, 2) := by decide +kernel
theorem dX12_layAlone_100 : decode cX12_layAlone 100 = .ok (.aload_n 0, 1) := by decide +kernel
theorem dX12_layAlone_101 : decode cX12_layAlone 101 = .ok (.getfield 87, 3) := by decide +kernel
theorem dX12_layAlone_104 : decode cX12_layAlone 104 = .ok (.iload_n 2, 1) := by decide +kernel
theorem dX12_layAlone_105 : decode cX12_layAlone 105 = .ok (.iaload, 1) := by decide +kernel
theorem dX12_layAlone_106 : decode cX12_layAlone 106 = .ok (.if_icmp .ge 8, 3) := by decide +kernel
theorem dX12_layAlone_109 : decode cX12_layAlone 109 = .ok (.iload 4, 2) := by decide +kernel
theorem dX12_layAlone_111 : decode cX12_layAlone 111 = .ok (.goto 9, 3) := by decide +kernel
theorem dX12_layAlone_114 : decode cX12_layAlone 114 = .ok (.aload_n 0, 1) := by decide +kernel
theorem dX12_layAlone_115 : decode cX12_layAlone 115 = .ok (.getfield 87, 3) := by decide +kernel
theorem dX12_layAlone_118 : decode cX12_layAlone 118 = .ok (.iload_n 2, 1) := by decide +kernel
theorem dX12_layAlone_119 : decode cX12_layAlone 119 = .ok (.iaload, 1) := by decide +kernel
theorem dX12_layAlone_120 : decode cX12_layAlone 120 = .ok (.iastore, 1) := by decide +kernel
theorem dX12_layAlone_121 : decode cX12_layAlone 121 = .ok (.iinc 3 1, 3) := by decide +kernel
theorem dX12_layAlone_124 : decode cX12_layAlone 124 = .ok (.goto (-94), 3) := by decide +kernel
theorem dX12_layAlone_127 : decode cX12_layAlone 127 = .ok (.iinc 2 1, 3) := by decide +kernel
theorem dX12_layAlone_130 : decode cX12_layAlone 130 = .ok (.goto (-121), 3) := by decide +kernel
theorem dX12_layAlone_133 : decode cX12_layAlone 133 = .ok (.return_, 1) := by decide +kernel
theorem dX12_joinAlone_0 : decode cX12_joinAlone 0 = .ok (.iconst 0, 1) := by decide +kernel
theorem dX12_joinAlone_1 : decode cX12_joinAlone 1 = .ok (.istore_n 1, 1) := by decide +kernel
theorem dX12_joinAlone_2 : decode cX12_joinAlone 2 = .ok (.iload_n 1, 1) := by decide +kernel
theorem dX12_joinAlone_3 : decode cX12_joinAlone 3 = .ok (.iconst 1, 1) := by decide +kernel
theorem dX12_joinAlone_4 : decode cX12_joinAlone 4 = .ok (.aload_n 0, 1) := by decide +kernel
theorem dX12_joinAlone_5 : decode cX12_joinAlone 5 = .ok (.getfield 145, 3) := by decide +kernel
theorem dX12_joinAlone_8 : decode cX12_joinAlone 8 = .ok (.ishl, 1) := by decide +kernel
theorem dX12_joinAlone_9 : decode cX12_joinAlone 9 = .ok (.if_icmp .ge 94, 3) := by decide +kernel
theorem dX12_joinAlone_12 : decode cX12_joinAlone 12 = .ok (.ldc_w 279, 3) := by decide +kernel
theorem dX12_joinAlone_15 : decode cX12_joinAlone 15 = .ok (.istore_n 2, 1) := by decide +kernel
theorem dX12_joinAlone_16 : decode cX12_joinAlone 16 = .ok (.iconst 0, 1) := by decide +kernel
theorem dX12_joinAlone_17 : decode cX12_joinAlone 17 = .ok (.istore_n 3, 1) := by decide +kernel
theorem dX12_joinAlone_18 : decode cX12_joinAlone 18 = .ok (.iload_n 3, 1) := by decide +kernel
theorem dX12_joinAlone_19 : decode cX12_joinAlone 19 = .ok (.iload_n 1, 1) := by decide +kernel
theorem dX12_joinAlone_20 : decode cX12_joinAlone 20 = .ok (.if_icmp .gt 70, 3) := by decide +kernel
theorem dX12_joinAlone_23 : decode cX12_joinAlone 23 = .ok (.iload_n 3, 1) := by decide +kernel
theorem dX12_joinAlone_24 : decode cX12_joinAlone 24 = .ok (.iload_n 1, 1) := by decide +kernel
theorem dX12_joinAlone_25 : decode cX12_joinAlone 25 = .ok (.iconst (-1), 1) := by decide +kernel
theorem dX12_joinAlone_26 : decode cX12_joinAlone 26 = .ok (.ixor, 1) := by decide +kernel
theorem dX12_joinAlone_27 : decode cX12_joinAlone 27 = .ok (.iand, 1) := by decide +kernel
theorem dX12_joinAlone_28 : decode cX12_joinAlone 28 = .ok (.ifCond .ne 56, 3) := by decide +kernel
theorem dX12_joinAlone_31 : decode cX12_joinAlone 31 = .ok (.aload_n 0, 1) := by decide +kernel
theorem dX12_joinAlone_32 : decode cX12_joinAlone 32 = .ok (.getfield 87, 3) := by decide +kernel
theorem dX12_joinAlone_35 : decode cX12_joinAlone 35 = .ok (.iload_n 3, 1) := by decide +kernel
theorem dX12_joinAlone_36 : decode cX12_joinAlone 36 = .ok (.iaload, 1) := by decide +kernel
theorem dX12_joinAlone_37 : decode cX12_joinAlone 37 = .ok (.aload_n 0, 1) := by decide +kernel
theorem dX12_joinAlone_38 : decode cX12_joinAlone 38 = .ok (.getfield 90, 3) := by decide +kernel
theorem dX12_joinAlone_41 : decode cX12_joinAlone 41 = .ok (.iload_n 1, 1) := by decide +kernel
theorem dX12_joinAlone_42 : decode cX12_joinAlone 42 = .ok (.iload_n 3, 1) := by decide +kernel
theorem dX12_joinAlone_43 : decode cX12_joinAlone 43 = .ok (.iconst (-1), 1) := by decide +kernel
theorem dX12_joinAlone_44 : decode cX12_joinAlone 44 = .ok (.ixor, 1) := by decide +kernel
theorem dX12_joinAlone_45 : decode cX12_joinAlone 45 = .ok (.iand, 1) := by decide +kernel
theorem dX12_joinAlone_46 : decode cX12_joinAlone 46 = .ok (.iaload, 1) := by decide +kernel
theorem dX12_joinAlone_47 : decode cX12_joinAlone 47 = .ok (.if_icmp .le 12, 3) := by decide +kernel
theorem dX12_joinAlone_50 : decode cX12_joinAlone 50 = .ok (.aload_n 0, 1) := by decide +kernel
theorem dX12_joinAlone_51 : decode cX12_joinAlone 51 = .ok (.getfield 87, 3) := by decide +kernel
theorem dX12_joinAlone_54 : decode cX12_joinAlone 54 = .ok (.iload_n 3, 1) := by decide +kernel
theorem dX12_joinAlone_55 : decode cX12_joinAlone 55 = .ok (.iaload, 1) := by decide +kernel
theorem dX12_joinAlone_56 : decode cX12_joinAlone 56 = .ok (.goto 13, 3) := by decide +kernel
theorem dX12_joinAlone_59 : decode cX12_joinAlone 59 = .ok (.aload_n 0, 1) := by decide +kernel
theorem dX12_joinAlone_60 : decode cX12_joinAlone 60 = .ok (.getfield 90, 3) := by decide +kernel
theorem dX12_joinAlone_63 : decode cX12_joinAlone 63 = .ok (.iload_n 1, 1) := by decide +kernel
theorem dX12_joinAlone_64 : decode cX12_joinAlone 64 = .ok (.iload_n 3, 1) := by decide +kernel
theorem dX12_joinAlone_65 : decode cX12_joinAlone 65 = .ok (.iconst (-1), 1) := by decide +kernel
theorem dX12_joinAlone_66 : decode cX12_joinAlone 66 = .ok (.ixor, 1) := by decide +kernel
theorem dX12_joinAlone_67 : decode cX12_joinAlone 67 = .ok (.iand, 1) := by decide +kernel
theorem dX12_joinAlone_68 : decode cX12_joinAlone 68 = .ok (.iaload, 1) := by decide +kernel
theorem dX12_joinAlone_69 : decode cX12_joinAlone 69 = .ok (.istore 4, 2) := by decide +kernel
theorem dX12_joinAlone_71 : decode cX12_joinAlone 71 = .ok (.iload 4, 2) := by decide +kernel
theorem dX12_joinAlone_73 : decode cX12_joinAlone 73 = .ok (.iload_n 2, 1) := by decide +kernel
theorem dX12_joinAlone_74 : decode cX12_joinAlone 74 = .ok (.if_icmp .ge 8, 3) := by decide +kernel
theorem dX12_joinAlone_77 : decode cX12_joinAlone 77 = .ok (.iload 4, 2) := by decide +kernel
theorem dX12_joinAlone_79 : decode cX12_joinAlone 79 = .ok (.goto 4, 3) := by decide +kernel
theorem dX12_joinAlone_82 : decode cX12_joinAlone 82 = .ok (.iload_n 2, 1) := by decide +kernel
theorem dX12_joinAlone_83 : decode cX12_joinAlone 83 = .ok (.istore_n 2, 1) := by decide +kernel
theorem dX12_joinAlone_84 : decode cX12_joinAlone 84 = .ok (.iinc 3 1, 3) := by decide +kernel
theorem dX12_joinAlone_87 : decode cX12_joinAlone 87 = .ok (.goto (-69), 3) := by decide +kernel
theorem dX12_joinAlone_90 : decode cX12_joinAlone 90 = .ok (.aload_n 0, 1) := by decide +kernel
theorem dX12_joinAlone_91 : decode cX12_joinAlone 91 = .ok (.getfield 93, 3) := by decide +kernel
theorem dX12_joinAlone_94 : decode cX12_joinAlone 94 = .ok (.iload_n 1, 1) := by decide +kernel
theorem dX12_joinAlone_95 : decode cX12_joinAlone 95 = .ok (.iload_n 2, 1) := by decide +kernel
theorem dX12_joinAlone_96 : decode cX12_joinAlone 96 = .ok (.iastore, 1) := by decide +kernel
theorem dX12_joinAlone_97 : decode cX12_joinAlone 97 = .ok (.iinc 1 1, 3) := by decide +kernel
theorem dX12_joinAlone_100 : decode cX12_joinAlone 100 = .ok (.goto (-98), 3) := by decide +kernel
theorem dX12_joinAlone_103 : decode cX12_joinAlone 103 = .ok (.iconst 0, 1) := by decide +kernel
theorem dX12_joinAlone_104 : decode cX12_joinAlone 104 = .ok (.istore_n 1, 1) := by decide +kernel
theorem dX12_joinAlone_105 : decode cX12_joinAlone 105 = .ok (.iload_n 1, 1) := by decide +kernel
theorem dX12_joinAlone_106 : decode cX12_joinAlone 106 = .ok (.iconst 1, 1) := by decide +kernel
theorem dX12_joinAlone_107 : decode cX12_joinAlone 107 = .ok (.aload_n 0, 1) := by decide +kernel
theorem dX12_joinAlone_108 : decode cX12_joinAlone 108 = .ok (.getfield 145, 3) := by decide +kernel
theorem dX12_joinAlone_111 : decode cX12_joinAlone 111 = .ok (.ishl, 1) := by decide +kernel
theorem dX12_joinAlone_112 : decode cX12_joinAlone 112 = .ok (.if_icmp .ge 21, 3) := by decide +kernel
theorem dX12_joinAlone_115 : decode cX12_joinAlone 115 = .ok (.aload_n 0, 1) := by decide +kernel
theorem dX12_joinAlone_116 : decode cX12_joinAlone 116 = .ok (.getfield 90, 3) := by decide +kernel
theorem dX12_joinAlone_119 : decode cX12_joinAlone 119 = .ok (.iload_n 1, 1) := by decide +kernel
theorem dX12_joinAlone_120 : decode cX12_joinAlone 120 = .ok (.aload_n 0, 1) := by decide +kernel
theorem dX12_joinAlone_121 : decode cX12_joinAlone 121 = .ok (.getfield 93, 3) := by decide +kernel
theorem dX12_joinAlone_124 : decode cX12_joinAlone 124 = .ok (.iload_n 1, 1) := by decide +kernel
theorem dX12_joinAlone_125 : decode cX12_joinAlone 125 = .ok (.iaload, 1) := by decide +kernel
theorem dX12_joinAlone_126 : decode cX12_joinAlone 126 = .ok (.iastore, 1) := by decide +kernel
theorem dX12_joinAlone_127 : decode cX12_joinAlone 127 = .ok (.iinc 1 1, 3) := by decide +kernel
theorem dX12_joinAlone_130 : decode cX12_joinAlone 130 = .ok (.goto (-25), 3) := by decide +kernel
theorem dX12_joinAlone_133 : decode cX12_joinAlone 133 = .ok (.return_, 1) := by decide +kernel
set_option maxRecDepth 20000 in
theorem ggX12_workable_X12_mayMatch : GoodIn wsX12_workable wsX12_mayMatch := goodIn_r _ [7, 8, 9, 10, 6, 11, 12, 13, 14, 15, 16, 17, 18, 19, 20, 21, 22, 23, 24, 25, 26, 27, 28, 29, 30, 31, 32, 33, 34, 35, 36, 37, 38, 39, 40, 41, 42, 43, 44, 45, 46, 47, 48, 49, 50, 51, 52, 53, 54, 55, 56, 57, 58, 59, 60, 61, 62, 63, 64, 65, 66, 67, 68, 69, 70, 71, 72, 73, 74, 75, 76, 77, 78, 79, 80, 81, 82, 83, 84, 85, 86, 87, 88, 89, 90, 91, 92, 93] rfl (by decide +kernel)
set_option maxRecDepth 20000 in
theorem gX12_workable_X12_mayMatch : GoodIn wsX12_workable (wsV RX12 270 RX12 yX12_mayMatch wsX12_mayMatch) := goodIn_app (goodIn_of _ (by decide +kernel)) ggX12_workable_X12_mayMatch
theorem dX12_workable_0 : decode cX12_workable 0 = .ok (.iconst 0, 1) := by decide +kernel
theorem dX12_workable_1 : decode cX12_workable 1 = .ok (.istore_n 1, 1) := by decide +kernel
theorem dX12_workable_2 : decode cX12_workable 2 = .ok (.iconst 0, 1) := by decide +kernel
theorem dX12_workable_3 : decode cX12_workable 3 = .ok (.istore_n 2, 1) := by decide +kernel
theorem dX12_workable_4 : decode cX12_workable 4 = .ok (.iload_n 2, 1) := by decide +kernel
theorem dX12_workable_5 : decode cX12_workable 5 = .ok (.aload_n 0, 1) := by decide +kernel
theorem dX12_workable_6 : decode cX12_workable 6 = .ok (.getfield 145, 3) := by decide +kernel
theorem dX12_workable_9 : decode cX12_workable 9 = .ok (.if_icmp .ge 44, 3) := by decide +kernel
theorem dX12_workable_12 : decode cX12_workable 12 = .ok (.iconst 0, 1) := by decide +kernel
theorem dX12_workable_13 : decode cX12_workable 13 = .ok (.istore_n 3, 1) := by decide +kernel
theorem dX12_workable_14 : decode cX12_workable 14 = .ok (.iload_n 3, 1) := by decide +kernel
theorem dX12_workable_15 : decode cX12_workable 15 = .ok (.aload_n 0, 1) := by decide +kernel
theorem dX12_workable_16 : decode cX12_workable 16 = .ok (.getfield 142, 3) := by decide +kernel
theorem dX12_workable_19 : decode cX12_workable 19 = .ok (.if_icmp .ge 28, 3) := by decide +kernel
theorem dX12_workable_22 : decode cX12_workable 22 = .ok (.iload_n 1, 1) := by decide +kernel
theorem dX12_workable_23 : decode cX12_workable 23 = .ok (.aload_n 0, 1) := by decide +kernel
theorem dX12_workable_24 : decode cX12_workable 24 = .ok (.iload_n 3, 1) := by decide +kernel
theorem dX12_workable_25 : decode cX12_workable 25 = .ok (.iload_n 2, 1) := by decide +kernel
theorem dX12_workable_26 : decode cX12_workable 26 = .ok (.invokevirtual 270, 3) := by decide +kernel
theorem dX12_workable_29 : decode cX12_workable 29 = .ok (.ifCond .eq 9, 3) := by decide +kernel
theorem dX12_workable_32 : decode cX12_workable 32 = .ok (.iconst 1, 1) := by decide +kernel
theorem dX12_workable_33 : decode cX12_workable 33 = .ok (.iload_n 2, 1) := by decide +kernel
theorem dX12_workable_34 : decode cX12_workable 34 = .ok (.ishl, 1) := by decide +kernel
theorem dX12_workable_35 : decode cX12_workable 35 = .ok (.goto 4, 3) := by decide +kernel
theorem dX12_workable_38 : decode cX12_workable 38 = .ok (.iconst 0, 1) := by decide +kernel
theorem dX12_workable_39 : decode cX12_workable 39 = .ok (.ior, 1) := by decide +kernel
theorem dX12_workable_40 : decode cX12_workable 40 = .ok (.istore_n 1, 1) := by decide +kernel
theorem dX12_workable_41 : decode cX12_workable 41 = .ok (.iinc 3 1, 3) := by decide +kernel
theorem dX12_workable_44 : decode cX12_workable 44 = .ok (.goto (-30), 3) := by decide +kernel
theorem dX12_workable_47 : decode cX12_workable 47 = .ok (.iinc 2 1, 3) := by decide +kernel
theorem dX12_workable_50 : decode cX12_workable 50 = .ok (.goto (-46), 3) := by decide +kernel
theorem dX12_workable_53 : decode cX12_workable 53 = .ok (.iload_n 1, 1) := by decide +kernel
theorem dX12_workable_54 : decode cX12_workable 54 = .ok (.ireturn, 1) := by decide +kernel
set_option maxRecDepth 20000 in
theorem ggX12_work_X12_in : GoodIn wsX12_work wsX12_in := goodIn_r _ [9] rfl (by decide +kernel)
set_option maxRecDepth 20000 in
theorem gX12_work_X12_in : GoodIn wsX12_work (va_wsS RX12 111 yX12_in wsX12_in) := goodIn_app (goodIn_of _ (by decide +kernel)) ggX12_work_X12_in
set_option maxRecDepth 20000 in
theorem ggX12_work_X12_layAlone : GoodIn wsX12_work wsX12_layAlone := goodIn_r _ [13, 14, 5, 3, 15, 16, 17, 18, 8, 19, 20, 21, 22, 23, 24, 25, 26, 27, 79, 80, 81, 82, 83, 84, 85, 86, 87, 88, 89, 90, 91, 92, 93, 94, 95, 96, 97, 98, 99, 100, 101, 102, 103, 104, 105, 106, 107, 108, 109, 110, 111, 112, 113, 114, 115, 116, 117, 118, 119, 120, 121, 122, 123] rfl (by decide +kernel)
set_option maxRecDepth 20000 in
theorem gX12_work_X12_layAlone : GoodIn wsX12_work (wsV RX12 286 RX12 yX12_layAlone wsX12_layAlone) := goodIn_app (goodIn_of _ (by decide +kernel)) ggX12_work_X12_layAlone
set_option maxRecDepth 20000 in
theorem ggX12_work_X12_joinAlone : GoodIn wsX12_work wsX12_joinAlone := goodIn_r _ [31, 5, 3, 14, 2, 32, 79, 80, 81, 82, 83, 84, 85, 86, 87, 88, 89, 90, 91, 92, 93, 94, 95, 96, 97, 98, 99, 100, 101, 102, 103, 104, 105, 106, 107, 108, 109, 110, 111, 112, 113, 114, 115, 116, 117, 118, 119, 120, 121, 122, 123] rfl (by decide +kernel)
set_option maxRecDepth 20000 in
theorem gX12_work_X12_joinAlone : GoodIn wsX12_work (wsV RX12 290 RX12 yX12_joinAlone wsX12_joinAlone) := goodIn_app (goodIn_of _ (by decide +kernel)) ggX12_work_X12_joinAlone
set_option maxRecDepth 20000 in
theorem ggX12_work_X12_workable : GoodIn wsX12_work wsX12_workable := goodIn_r _ [36, 5, 37, 38, 39, 40, 8, 41, 42, 43, 44, 45, 16, 17, 18, 19, 46, 47, 48, 49, 50, 51, 52, 53, 54, 55, 56, 57, 58, 59, 60, 61, 62, 63, 64, 65, 66, 67, 68, 69, 70, 71, 72, 73, 74, 75, 76, 77, 78, 79, 80, 81, 82, 83, 84, 85, 86, 87, 88, 89, 90, 91, 92, 93, 94, 95, 96, 97, 98, 99, 100, 101, 102, 103, 104, 105, 106, 107, 108, 109, 110, 111, 112, 113, 114, 115, 116, 117, 118, 119, 120, 121, 122, 123] rfl (by decide +kernel)
set_option maxRecDepth 20000 in
theorem gX12_work_X12_workable : GoodIn wsX12_work (wsV RX12 293 RX12 yX12_workable wsX12_workable) := goodIn_app (goodIn_of _ (by decide +kernel)) ggX12_work_X12_workable
set_option maxRecDepth 20000 in
theorem ggX12_work_X12_bits : GoodIn wsX12_work wsX12_bits := goodIn_r _ [75] rfl (by decide +kernel)
set_option maxRecDepth 20000 in
theorem gX12_work_X12_bits : GoodIn wsX12_work (va_wsS RX12 223 yX12_bits wsX12_bits) := goodIn_app (goodIn_of _ (by decide +kernel)) ggX12_work_X12_bits
theorem dX12_work_0 : decode cX12_work 0 = .ok (.iload_n 1, 1) := by decide +kernel
theorem dX12_work_1 : decode cX12_work 1 = .ok (.i2l, 1) := by decide +kernel
theorem dX12_work_2 : decode cX12_work 2 = .ok (.lconst 1, 1) := by decide +kernel
theorem dX12_work_3 : decode cX12_work 3 = .ok (.ldc2_w 284, 3) := by decide +kernel
theorem dX12_work_6 : decode cX12_work 6 = .ok (.invokestatic 111, 3) := by decide +kernel
theorem dX12_work_9 : decode cX12_work 9 = .ok (.ifCond .ne 6, 3) := by decide +kernel
theorem dX12_work_12 : decode cX12_work 12 = .ok (.bipush (-3), 2) := by decide +kernel
theorem dX12_work_14 : decode cX12_work 14 = .ok (.ireturn, 1) := by decide +kernel
theorem dX12_work_15 : decode cX12_work 15 = .ok (.iconst 0, 1) := by decide +kernel
theorem dX12_work_16 : decode cX12_work 16 = .ok (.istore_n 2, 1) := by decide +kernel
theorem dX12_work_17 : decode cX12_work 17 = .ok (.iload_n 2, 1) := by decide +kernel
theorem dX12_work_18 : decode cX12_work 18 = .ok (.sipush 128, 3) := by decide +kernel
theorem dX12_work_21 : decode cX12_work 21 = .ok (.if_icmp .ge 26, 3) := by decide +kernel
theorem dX12_work_24 : decode cX12_work 24 = .ok (.aload_n 0, 1) := by decide +kernel
theorem dX12_work_25 : decode cX12_work 25 = .ok (.getfield 90, 3) := by decide +kernel
theorem dX12_work_28 : decode cX12_work 28 = .ok (.iload_n 2, 1) := by decide +kernel
theorem dX12_work_29 : decode cX12_work 29 = .ok (.iload_n 2, 1) := by decide +kernel
theorem dX12_work_30 : decode cX12_work 30 = .ok (.ifCond .ne 7, 3) := by decide +kernel
theorem dX12_work_33 : decode cX12_work 33 = .ok (.iconst 0, 1) := by decide +kernel
theorem dX12_work_34 : decode cX12_work 34 = .ok (.goto 6, 3) := by decide +kernel
theorem dX12_work_37 : decode cX12_work 37 = .ok (.ldc_w 279, 3) := by decide +kernel
theorem dX12_work_40 : decode cX12_work 40 = .ok (.iastore, 1) := by decide +kernel
theorem dX12_work_41 : decode cX12_work 41 = .ok (.iinc 2 1, 3) := by decide +kernel
theorem dX12_work_44 : decode cX12_work 44 = .ok (.goto (-27), 3) := by decide +kernel
theorem dX12_work_47 : decode cX12_work 47 = .ok (.iconst 0, 1) := by decide +kernel
theorem dX12_work_48 : decode cX12_work 48 = .ok (.istore_n 2, 1) := by decide +kernel
theorem dX12_work_49 : decode cX12_work 49 = .ok (.iload_n 2, 1) := by decide +kernel
theorem dX12_work_50 : decode cX12_work 50 = .ok (.aload_n 0, 1) := by decide +kernel
theorem dX12_work_51 : decode cX12_work 51 = .ok (.getfield 148, 3) := by decide +kernel
theorem dX12_work_54 : decode cX12_work 54 = .ok (.if_icmp .ge 18, 3) := by decide +kernel
theorem dX12_work_57 : decode cX12_work 57 = .ok (.aload_n 0, 1) := by decide +kernel
theorem dX12_work_58 : decode cX12_work 58 = .ok (.iload_n 2, 1) := by decide +kernel
theorem dX12_work_59 : decode cX12_work 59 = .ok (.invokevirtual 286, 3) := by decide +kernel
theorem dX12_work_62 : decode cX12_work 62 = .ok (.aload_n 0, 1) := by decide +kernel
theorem dX12_work_63 : decode cX12_work 63 = .ok (.invokevirtual 290, 3) := by decide +kernel
theorem dX12_work_66 : decode cX12_work 66 = .ok (.iinc 2 1, 3) := by decide +kernel
theorem dX12_work_69 : decode cX12_work 69 = .ok (.goto (-20), 3) := by decide +kernel
theorem dX12_work_72 : decode cX12_work 72 = .ok (.aload_n 0, 1) := by decide +kernel
theorem dX12_work_73 : decode cX12_work 73 = .ok (.invokevirtual 293, 3) := by decide +kernel
theorem dX12_work_76 : decode cX12_work 76 = .ok (.istore_n 2, 1) := by decide +kernel
theorem dX12_work_77 : decode cX12_work 77 = .ok (.ldc_w 279, 3) := by decide +kernel
theorem dX12_work_80 : decode cX12_work 80 = .ok (.istore_n 3, 1) := by decide +kernel
theorem dX12_work_81 : decode cX12_work 81 = .ok (.iconst 0, 1) := by decide +kernel
theorem dX12_work_82 : decode cX12_work 82 = .ok (.istore 4, 2) := by decide +kernel
theorem dX12_work_84 : decode cX12_work 84 = .ok (.iload 4, 2) := by decide +kernel
theorem dX12_work_86 : decode cX12_work 86 = .ok (.iconst 1, 1) := by decide +kernel
theorem dX12_work_87 : decode cX12_work 87 = .ok (.aload_n 0, 1) := by decide +kernel
theorem dX12_work_88 : decode cX12_work 88 = .ok (.getfield 145, 3) := by decide +kernel
theorem dX12_work_91 : decode cX12_work 91 = .ok (.ishl, 1) := by decide +kernel
theorem dX12_work_92 : decode cX12_work 92 = .ok (.if_icmp .ge 62, 3) := by decide +kernel
theorem dX12_work_95 : decode cX12_work 95 = .ok (.iload 4, 2) := by decide +kernel
theorem dX12_work_97 : decode cX12_work 97 = .ok (.iload_n 2, 1) := by decide +kernel
theorem dX12_work_98 : decode cX12_work 98 = .ok (.iconst (-1), 1) := by decide +kernel
theorem dX12_work_99 : decode cX12_work 99 = .ok (.ixor, 1) := by decide +kernel
theorem dX12_work_100 : decode cX12_work 100 = .ok (.iand, 1) := by decide +kernel
theorem dX12_work_101 : decode cX12_work 101 = .ok (.ifCond .ne 27, 3) := by decide +kernel
theorem dX12_work_104 : decode cX12_work 104 = .ok (.iload 4, 2) := by decide +kernel
theorem dX12_work_106 : decode cX12_work 106 = .ok (.invokestatic 223, 3) := by decide +kernel
theorem dX12_work_109 : decode cX12_work 109 = .ok (.iload_n 1, 1) := by decide +kernel
theorem dX12_work_110 : decode cX12_work 110 = .ok (.if_icmp .ne 18, 3) := by decide +kernel
theorem dX12_work_113 : decode cX12_work 113 = .ok (.aload_n 0, 1) := by decide +kernel
theorem dX12_work_114 : decode cX12_work 114 = .ok (.getfield 90, 3) := by decide +kernel
theorem dX12_work_117 : decode cX12_work 117 = .ok (.iload 4, 2) := by decide +kernel
theorem dX12_work_119 : decode cX12_work 119 = .ok (.iaload, 1) := by decide +kernel
theorem dX12_work_120 : decode cX12_work 120 = .ok (.iload_n 3, 1) := by decide +kernel
theorem dX12_work_121 : decode cX12_work 121 = .ok (.if_icmp .ge 7, 3) := by decide +kernel
theorem dX12_work_124 : decode cX12_work 124 = .ok (.iconst 1, 1) := by decide +kernel
theorem dX12_work_125 : decode cX12_work 125 = .ok (.goto 4, 3) := by decide +kernel
theorem dX12_work_128 : decode cX12_work 128 = .ok (.iconst 0, 1) := by decide +kernel
theorem dX12_work_129 : decode cX12_work 129 = .ok (.istore 5, 2) := by decide +kernel
theorem dX12_work_131 : decode cX12_work 131 = .ok (.iload 5, 2) := by decide +kernel
theorem dX12_work_133 : decode cX12_work 133 = .ok (.ifCond .eq 13, 3) := by decide +kernel
theorem dX12_work_136 : decode cX12_work 136 = .ok (.aload_n 0, 1) := by decide +kernel
theorem dX12_work_137 : decode cX12_work 137 = .ok (.getfield 90, 3) := by decide +kernel
theorem dX12_work_140 : decode cX12_work 140 = .ok (.iload 4, 2) := by decide +kernel
theorem dX12_work_142 : decode cX12_work 142 = .ok (.iaload, 1) := by decide +kernel
theorem dX12_work_143 : decode cX12_work 143 = .ok (.goto 4, 3) := by decide +kernel
theorem dX12_work_146 : decode cX12_work 146 = .ok (.iload_n 3, 1) := by decide +kernel
theorem dX12_work_147 : decode cX12_work 147 = .ok (.istore_n 3, 1) := by decide +kernel
theorem dX12_work_148 : decode cX12_work 148 = .ok (.iinc 4 1, 3) := by decide +kernel
theorem dX12_work_151 : decode cX12_work 151 = .ok (.goto (-67), 3) := by decide +kernel
theorem dX12_work_154 : decode cX12_work 154 = .ok (.iload_n 3, 1) := by decide +kernel
theorem dX12_work_155 : decode cX12_work 155 = .ok (.ldc_w 279, 3) := by decide +kernel
theorem dX12_work_158 : decode cX12_work 158 = .ok (.if_icmp .ne 7, 3) := by decide +kernel
theorem dX12_work_161 : decode cX12_work 161 = .ok (.iconst (-1), 1) := by decide +kernel
theorem dX12_work_162 : decode cX12_work 162 = .ok (.goto 4, 3) := by decide +kernel
theorem dX12_work_165 : decode cX12_work 165 = .ok (.iload_n 3, 1) := by decide +kernel
theorem dX12_work_166 : decode cX12_work 166 = .ok (.ireturn, 1) := by decide +kernel
set_option maxRecDepth 20000 in
theorem ggX12_seen_X12_isLock : GoodIn wsX12_seen wsX12_isLock := goodIn_r _ [8, 9, 10, 11, 7, 12, 13, 14, 15, 16, 17, 18, 19, 20, 21, 22, 23, 24, 25, 26, 27, 28, 29, 30, 31, 32, 33, 34, 35, 36, 37, 38, 39, 40, 41, 42, 43, 44, 45, 46, 47, 48, 49, 50, 51, 52, 53, 54, 55, 56, 57] rfl (by decide +kernel)
set_option maxRecDepth 20000 in
theorem gX12_seen_X12_isLock : GoodIn wsX12_seen (wsV RX12 243 RX12 yX12_isLock wsX12_isLock) := goodIn_app (goodIn_of _ (by decide +kernel)) ggX12_seen_X12_isLock
set_option maxRecDepth 20000 in
theorem ggX12_seen_X12_in : GoodIn wsX12_seen wsX12_in := goodIn_r _ [12] rfl (by decide +kernel)
set_option maxRecDepth 20000 in
theorem gX12_seen_X12_in : GoodIn wsX12_seen (va_wsS RX12 111 yX12_in wsX12_in) := goodIn_app (goodIn_of _ (by decide +kernel)) ggX12_seen_X12_in
theorem dX12_seen_0 : decode cX12_seen 0 = .ok (.aload_n 0, 1) := by decide +kernel
theorem dX12_seen_1 : decode cX12_seen 1 = .ok (.iload_n 1, 1) := by decide +kernel
theorem dX12_seen_2 : decode cX12_seen 2 = .ok (.invokevirtual 243, 3) := by decide +kernel
theorem dX12_seen_5 : decode cX12_seen 5 = .ok (.ifCond .ne 6, 3) := by decide +kernel
theorem dX12_seen_8 : decode cX12_seen 8 = .ok (.bipush (-2), 2) := by decide +kernel
theorem dX12_seen_10 : decode cX12_seen 10 = .ok (.ireturn, 1) := by decide +kernel
theorem dX12_seen_11 : decode cX12_seen 11 = .ok (.iload_n 2, 1) := by decide +kernel
theorem dX12_seen_12 : decode cX12_seen 12 = .ok (.i2l, 1) := by decide +kernel
theorem dX12_seen_13 : decode cX12_seen 13 = .ok (.lconst 0, 1) := by decide +kernel
theorem dX12_seen_14 : decode cX12_seen 14 = .ok (.lconst 1, 1) := by decide +kernel
theorem dX12_seen_15 : decode cX12_seen 15 = .ok (.invokestatic 111, 3) := by decide +kernel
theorem dX12_seen_18 : decode cX12_seen 18 = .ok (.ifCond .ne 6, 3) := by decide +kernel
theorem dX12_seen_21 : decode cX12_seen 21 = .ok (.bipush (-3), 2) := by decide +kernel
theorem dX12_seen_23 : decode cX12_seen 23 = .ok (.ireturn, 1) := by decide +kernel
theorem dX12_seen_24 : decode cX12_seen 24 = .ok (.aload_n 0, 1) := by decide +kernel
theorem dX12_seen_25 : decode cX12_seen 25 = .ok (.getfield 208, 3) := by decide +kernel
theorem dX12_seen_28 : decode cX12_seen 28 = .ok (.bipush 6, 2) := by decide +kernel
theorem dX12_seen_30 : decode cX12_seen 30 = .ok (.if_icmp .ne 6, 3) := by decide +kernel
theorem dX12_seen_33 : decode cX12_seen 33 = .ok (.bipush (-5), 2) := by decide +kernel
theorem dX12_seen_35 : decode cX12_seen 35 = .ok (.ireturn, 1) := by decide +kernel
theorem dX12_seen_36 : decode cX12_seen 36 = .ok (.aload_n 0, 1) := by decide +kernel
theorem dX12_seen_37 : decode cX12_seen 37 = .ok (.getfield 48, 3) := by decide +kernel
theorem dX12_seen_40 : decode cX12_seen 40 = .ok (.aload_n 0, 1) := by decide +kernel
theorem dX12_seen_41 : decode cX12_seen 41 = .ok (.getfield 208, 3) := by decide +kernel
theorem dX12_seen_44 : decode cX12_seen 44 = .ok (.iload_n 1, 1) := by decide +kernel
theorem dX12_seen_45 : decode cX12_seen 45 = .ok (.iastore, 1) := by decide +kernel
theorem dX12_seen_46 : decode cX12_seen 46 = .ok (.aload_n 0, 1) := by decide +kernel
theorem dX12_seen_47 : decode cX12_seen 47 = .ok (.getfield 51, 3) := by decide +kernel
theorem dX12_seen_50 : decode cX12_seen 50 = .ok (.aload_n 0, 1) := by decide +kernel
theorem dX12_seen_51 : decode cX12_seen 51 = .ok (.getfield 208, 3) := by decide +kernel
theorem dX12_seen_54 : decode cX12_seen 54 = .ok (.iload_n 2, 1) := by decide +kernel
theorem dX12_seen_55 : decode cX12_seen 55 = .ok (.iastore, 1) := by decide +kernel
theorem dX12_seen_56 : decode cX12_seen 56 = .ok (.aload_n 0, 1) := by decide +kernel
theorem dX12_seen_57 : decode cX12_seen 57 = .ok (.dup, 1) := by decide +kernel
theorem dX12_seen_58 : decode cX12_seen 58 = .ok (.getfield 208, 3) := by decide +kernel
theorem dX12_seen_61 : decode cX12_seen 61 = .ok (.iconst 1, 1) := by decide +kernel
theorem dX12_seen_62 : decode cX12_seen 62 = .ok (.iadd, 1) := by decide +kernel
theorem dX12_seen_63 : decode cX12_seen 63 = .ok (.putfield 208, 3) := by decide +kernel
theorem dX12_seen_66 : decode cX12_seen 66 = .ok (.aload_n 0, 1) := by decide +kernel
theorem dX12_seen_67 : decode cX12_seen 67 = .ok (.getfield 208, 3) := by decide +kernel
theorem dX12_seen_70 : decode cX12_seen 70 = .ok (.ireturn, 1) := by decide +kernel
theorem dX12_forget_0 : decode cX12_forget 0 = .ok (.aload_n 0, 1) := by decide +kernel
theorem dX12_forget_1 : decode cX12_forget 1 = .ok (.getfield 208, 3) := by decide +kernel
theorem dX12_forget_4 : decode cX12_forget 4 = .ok (.istore_n 1, 1) := by decide +kernel
theorem dX12_forget_5 : decode cX12_forget 5 = .ok (.aload_n 0, 1) := by decide +kernel
theorem dX12_forget_6 : decode cX12_forget 6 = .ok (.iconst 0, 1) := by decide +kernel
theorem dX12_forget_7 : decode cX12_forget 7 = .ok (.putfield 208, 3) := by decide +kernel
theorem dX12_forget_10 : decode cX12_forget 10 = .ok (.iload_n 1, 1) := by decide +kernel
theorem dX12_forget_11 : decode cX12_forget 11 = .ok (.ireturn, 1) := by decide +kernel
set_option maxRecDepth 20000 in
theorem ggX12_isSeenSo_X12_goesBy : GoodIn wsX12_isSeenSo wsX12_goesBy := goodIn_r _ [8, 9, 10, 11, 12, 7, 13, 14, 15, 16, 17, 18, 19, 20, 21, 22, 23, 24, 25, 26, 27, 28, 29, 30, 31, 32, 33, 34, 35, 36, 37, 38, 39, 40, 41, 42, 43, 44, 45, 46, 47, 48, 49, 50, 51, 52, 53, 54, 55, 56, 57, 58, 59, 60, 61] rfl (by decide +kernel)
set_option maxRecDepth 20000 in
theorem gX12_isSeenSo_X12_goesBy : GoodIn wsX12_isSeenSo (wsV RX12 234 RX12 yX12_goesBy wsX12_goesBy) := goodIn_app (goodIn_of _ (by decide +kernel)) ggX12_isSeenSo_X12_goesBy
theorem dX12_isSeenSo_0 : decode cX12_isSeenSo 0 = .ok (.iconst 1, 1) := by decide +kernel
theorem dX12_isSeenSo_1 : decode cX12_isSeenSo 1 = .ok (.istore_n 3, 1) := by decide +kernel
theorem dX12_isSeenSo_2 : decode cX12_isSeenSo 2 = .ok (.iconst 0, 1) := by decide +kernel
theorem dX12_isSeenSo_3 : decode cX12_isSeenSo 3 = .ok (.istore 4, 2) := by decide +kernel
theorem dX12_isSeenSo_5 : decode cX12_isSeenSo 5 = .ok (.iload 4, 2) := by decide +kernel
theorem dX12_isSeenSo_7 : decode cX12_isSeenSo 7 = .ok (.aload_n 0, 1) := by decide +kernel
theorem dX12_isSeenSo_8 : decode cX12_isSeenSo 8 = .ok (.getfield 208, 3) := by decide +kernel
theorem dX12_isSeenSo_11 : decode cX12_isSeenSo 11 = .ok (.if_icmp .ge 51, 3) := by decide +kernel
theorem dX12_isSeenSo_14 : decode cX12_isSeenSo 14 = .ok (.iload_n 3, 1) := by decide +kernel
theorem dX12_isSeenSo_15 : decode cX12_isSeenSo 15 = .ok (.ifCond .eq 39, 3) := by decide +kernel
theorem dX12_isSeenSo_18 : decode cX12_isSeenSo 18 = .ok (.aload_n 0, 1) := by decide +kernel
theorem dX12_isSeenSo_19 : decode cX12_isSeenSo 19 = .ok (.iload_n 1, 1) := by decide +kernel
theorem dX12_isSeenSo_20 : decode cX12_isSeenSo 20 = .ok (.iload_n 2, 1) := by decide +kernel
theorem dX12_isSeenSo_21 : decode cX12_isSeenSo 21 = .ok (.aload_n 0, 1) := by decide +kernel
theorem dX12_isSeenSo_22 : decode cX12_isSeenSo 22 = .ok (.getfield 48, 3) := by decide +kernel
theorem dX12_isSeenSo_25 : decode cX12_isSeenSo 25 = .ok (.iload 4, 2) := by decide +kernel
theorem dX12_isSeenSo_27 : decode cX12_isSeenSo 27 = .ok (.iaload, 1) := by decide +kernel
theorem dX12_isSeenSo_28 : decode cX12_isSeenSo 28 = .ok (.invokevirtual 234, 3) := by decide +kernel
theorem dX12_isSeenSo_31 : decode cX12_isSeenSo 31 = .ok (.aload_n 0, 1) := by decide +kernel
theorem dX12_isSeenSo_32 : decode cX12_isSeenSo 32 = .ok (.getfield 51, 3) := by decide +kernel
theorem dX12_isSeenSo_35 : decode cX12_isSeenSo 35 = .ok (.iload 4, 2) := by decide +kernel
theorem dX12_isSeenSo_37 : decode cX12_isSeenSo 37 = .ok (.iaload, 1) := by decide +kernel
theorem dX12_isSeenSo_38 : decode cX12_isSeenSo 38 = .ok (.iconst 1, 1) := by decide +kernel
theorem dX12_isSeenSo_39 : decode cX12_isSeenSo 39 = .ok (.if_icmp .ne 7, 3) := by decide +kernel
theorem dX12_isSeenSo_42 : decode cX12_isSeenSo 42 = .ok (.iconst 1, 1) := by decide +kernel
theorem dX12_isSeenSo_43 : decode cX12_isSeenSo 43 = .ok (.goto 4, 3) := by decide +kernel
theorem dX12_isSeenSo_46 : decode cX12_isSeenSo 46 = .ok (.iconst 0, 1) := by decide +kernel
theorem dX12_isSeenSo_47 : decode cX12_isSeenSo 47 = .ok (.if_icmp .ne 7, 3) := by decide +kernel
theorem dX12_isSeenSo_50 : decode cX12_isSeenSo 50 = .ok (.iconst 1, 1) := by decide +kernel
theorem dX12_isSeenSo_51 : decode cX12_isSeenSo 51 = .ok (.goto 4, 3) := by decide +kernel
theorem dX12_isSeenSo_54 : decode cX12_isSeenSo 54 = .ok (.iconst 0, 1) := by decide +kernel
theorem dX12_isSeenSo_55 : decode cX12_isSeenSo 55 = .ok (.istore_n 3, 1) := by decide +kernel
theorem dX12_isSeenSo_56 : decode cX12_isSeenSo 56 = .ok (.iinc 4 1, 3) := by decide +kernel
theorem dX12_isSeenSo_59 : decode cX12_isSeenSo 59 = .ok (.goto (-54), 3) := by decide +kernel
theorem dX12_isSeenSo_62 : decode cX12_isSeenSo 62 = .ok (.iload_n 3, 1) := by decide +kernel
theorem dX12_isSeenSo_63 : decode cX12_isSeenSo 63 = .ok (.ireturn, 1) := by decide +kernel
set_option maxRecDepth 20000 in
theorem ggX12_cuts_X12_in : GoodIn wsX12_cuts wsX12_in := goodIn_r _ [5] rfl (by decide +kernel)
set_option maxRecDepth 20000 in
theorem gX12_cuts_X12_in : GoodIn wsX12_cuts (va_wsS RX12 111 yX12_in wsX12_in) := goodIn_app (goodIn_of _ (by decide +kernel)) ggX12_cuts_X12_in
set_option maxRecDepth 20000 in
theorem ggX12_cuts_X12_isSeenSo : GoodIn wsX12_cuts wsX12_isSeenSo := goodIn_r _ [9, 10, 11, 12, 13, 14, 15, 4, 16, 17, 18, 19, 20, 21, 22, 23, 24, 25, 26, 27, 28, 29, 30, 31, 32, 33, 34, 35, 36, 37, 38, 39, 40, 41, 42, 43, 44, 45, 46, 47, 48, 49, 50, 51, 52, 53, 54, 55, 56, 57, 58, 59, 60, 61, 62, 63, 64, 65, 66, 67, 68, 69] rfl (by decide +kernel)
set_option maxRecDepth 20000 in
theorem gX12_cuts_X12_isSeenSo : GoodIn wsX12_cuts (wsV RX12 298 RX12 yX12_isSeenSo wsX12_isSeenSo) := goodIn_app (goodIn_of _ (by decide +kernel)) ggX12_cuts_X12_isSeenSo
theorem dX12_cuts_0 : decode cX12_cuts 0 = .ok (.iload_n 1, 1) := by decide +kernel
theorem dX12_cuts_1 : decode cX12_cuts 1 = .ok (.i2l, 1) := by decide +kernel
theorem dX12_cuts_2 : decode cX12_cuts 2 = .ok (.lconst 0, 1) := by decide +kernel
theorem dX12_cuts_3 : decode cX12_cuts 3 = .ok (.ldc2_w 296, 3) := by decide +kernel
theorem dX12_cuts_6 : decode cX12_cuts 6 = .ok (.invokestatic 111, 3) := by decide +kernel
theorem dX12_cuts_9 : decode cX12_cuts 9 = .ok (.ifCond .ne 6, 3) := by decide +kernel
theorem dX12_cuts_12 : decode cX12_cuts 12 = .ok (.bipush (-3), 2) := by decide +kernel
theorem dX12_cuts_14 : decode cX12_cuts 14 = .ok (.ireturn, 1) := by decide +kernel
theorem dX12_cuts_15 : decode cX12_cuts 15 = .ok (.iconst 0, 1) := by decide +kernel
theorem dX12_cuts_16 : decode cX12_cuts 16 = .ok (.istore_n 2, 1) := by decide +kernel
theorem dX12_cuts_17 : decode cX12_cuts 17 = .ok (.sipush 511, 3) := by decide +kernel
theorem dX12_cuts_20 : decode cX12_cuts 20 = .ok (.istore_n 3, 1) := by decide +kernel
theorem dX12_cuts_21 : decode cX12_cuts 21 = .ok (.iconst 0, 1) := by decide +kernel
theorem dX12_cuts_22 : decode cX12_cuts 22 = .ok (.istore 4, 2) := by decide +kernel
theorem dX12_cuts_24 : decode cX12_cuts 24 = .ok (.iconst 0, 1) := by decide +kernel
theorem dX12_cuts_25 : decode cX12_cuts 25 = .ok (.istore 5, 2) := by decide +kernel
theorem dX12_cuts_27 : decode cX12_cuts 27 = .ok (.iload 5, 2) := by decide +kernel
theorem dX12_cuts_29 : decode cX12_cuts 29 = .ok (.sipush 512, 3) := by decide +kernel
theorem dX12_cuts_32 : decode cX12_cuts 32 = .ok (.if_icmp .ge 34, 3) := by decide +kernel
theorem dX12_cuts_35 : decode cX12_cuts 35 = .ok (.aload_n 0, 1) := by decide +kernel
theorem dX12_cuts_36 : decode cX12_cuts 36 = .ok (.iconst 0, 1) := by decide +kernel
theorem dX12_cuts_37 : decode cX12_cuts 37 = .ok (.iload 5, 2) := by decide +kernel
theorem dX12_cuts_39 : decode cX12_cuts 39 = .ok (.invokevirtual 298, 3) := by decide +kernel
theorem dX12_cuts_42 : decode cX12_cuts 42 = .ok (.ifCond .eq 18, 3) := by decide +kernel
theorem dX12_cuts_45 : decode cX12_cuts 45 = .ok (.iinc 2 1, 3) := by decide +kernel
theorem dX12_cuts_48 : decode cX12_cuts 48 = .ok (.iload_n 3, 1) := by decide +kernel
theorem dX12_cuts_49 : decode cX12_cuts 49 = .ok (.iload 5, 2) := by decide +kernel
theorem dX12_cuts_51 : decode cX12_cuts 51 = .ok (.iand, 1) := by decide +kernel
theorem dX12_cuts_52 : decode cX12_cuts 52 = .ok (.istore_n 3, 1) := by decide +kernel
theorem dX12_cuts_53 : decode cX12_cuts 53 = .ok (.iload 4, 2) := by decide +kernel
theorem dX12_cuts_55 : decode cX12_cuts 55 = .ok (.iload 5, 2) := by decide +kernel
theorem dX12_cuts_57 : decode cX12_cuts 57 = .ok (.ior, 1) := by decide +kernel
theorem dX12_cuts_58 : decode cX12_cuts 58 = .ok (.istore 4, 2) := by decide +kernel
theorem dX12_cuts_60 : decode cX12_cuts 60 = .ok (.iinc 5 1, 3) := by decide +kernel
theorem dX12_cuts_63 : decode cX12_cuts 63 = .ok (.goto (-36), 3) := by decide +kernel
theorem dX12_cuts_66 : decode cX12_cuts 66 = .ok (.iload_n 1, 1) := by decide +kernel
theorem dX12_cuts_67 : decode cX12_cuts 67 = .ok (.ifCond .ne 7, 3) := by decide +kernel
theorem dX12_cuts_70 : decode cX12_cuts 70 = .ok (.iload_n 2, 1) := by decide +kernel
theorem dX12_cuts_71 : decode cX12_cuts 71 = .ok (.goto 22, 3) := by decide +kernel
theorem dX12_cuts_74 : decode cX12_cuts 74 = .ok (.iload_n 2, 1) := by decide +kernel
theorem dX12_cuts_75 : decode cX12_cuts 75 = .ok (.ifCond .ne 7, 3) := by decide +kernel
theorem dX12_cuts_78 : decode cX12_cuts 78 = .ok (.iconst 0, 1) := by decide +kernel
theorem dX12_cuts_79 : decode cX12_cuts 79 = .ok (.goto 14, 3) := by decide +kernel
theorem dX12_cuts_82 : decode cX12_cuts 82 = .ok (.iload_n 1, 1) := by decide +kernel
theorem dX12_cuts_83 : decode cX12_cuts 83 = .ok (.iconst 1, 1) := by decide +kernel
theorem dX12_cuts_84 : decode cX12_cuts 84 = .ok (.if_icmp .ne 7, 3) := by decide +kernel
theorem dX12_cuts_87 : decode cX12_cuts 87 = .ok (.iload_n 3, 1) := by decide +kernel
theorem dX12_cuts_88 : decode cX12_cuts 88 = .ok (.goto 5, 3) := by decide +kernel
theorem dX12_cuts_91 : decode cX12_cuts 91 = .ok (.iload 4, 2) := by decide +kernel
theorem dX12_cuts_93 : decode cX12_cuts 93 = .ok (.ireturn, 1) := by decide +kernel
set_option maxRecDepth 20000 in
theorem ggX12_how_X12_isKey : GoodIn wsX12_how wsX12_isKey := goodIn_r _ [8, 9, 10, 11, 7, 12, 41, 42, 43, 44, 45, 46, 47, 48, 49, 50, 51, 52, 53, 54, 55, 56, 57, 58, 59, 60, 61, 62, 63, 64, 65, 66, 67, 68, 69, 70, 71, 72, 73, 74, 75, 76, 77, 78, 79, 80, 81, 82, 83, 84, 85] rfl (by decide +kernel)
set_option maxRecDepth 20000 in
theorem gX12_how_X12_isKey : GoodIn wsX12_how (wsV RX12 237 RX12 yX12_isKey wsX12_isKey) := goodIn_app (goodIn_of _ (by decide +kernel)) ggX12_how_X12_isKey
set_option maxRecDepth 20000 in
theorem ggX12_how_X12_edgeBy : GoodIn wsX12_how wsX12_edgeBy := goodIn_r _ [15, 16, 17, 7, 18, 19, 20, 21] rfl (by decide +kernel)
set_option maxRecDepth 20000 in
theorem gX12_how_X12_edgeBy : GoodIn wsX12_how (va_wsS RX12 219 yX12_edgeBy wsX12_edgeBy) := goodIn_app (goodIn_of _ (by decide +kernel)) ggX12_how_X12_edgeBy
set_option maxRecDepth 20000 in
theorem ggX12_how_X12_isSeenSo : GoodIn wsX12_how wsX12_isSeenSo := goodIn_r _ [25, 26, 27, 28, 29, 30, 31, 7, 32, 33, 34, 35, 36, 37, 38, 39, 40, 41, 42, 43, 44, 45, 46, 47, 48, 49, 50, 51, 52, 53, 54, 55, 56, 57, 58, 59, 60, 61, 62, 63, 64, 65, 66, 67, 68, 69, 70, 71, 72, 73, 74, 75, 76, 77, 78, 79, 80, 81, 82, 83, 84, 85] rfl (by decide +kernel)
set_option maxRecDepth 20000 in
theorem gX12_how_X12_isSeenSo : GoodIn wsX12_how (wsV RX12 298 RX12 yX12_isSeenSo wsX12_isSeenSo) := goodIn_app (goodIn_of _ (by decide +kernel)) ggX12_how_X12_isSeenSo
theorem dX12_how_0 : decode cX12_how 0 = .ok (.aload_n 0, 1) := by decide +kernel
theorem dX12_how_1 : decode cX12_how 1 = .ok (.iload_n 1, 1) := by decide +kernel
theorem dX12_how_2 : decode cX12_how 2 = .ok (.invokevirtual 237, 3) := by decide +kernel
theorem dX12_how_5 : decode cX12_how 5 = .ok (.ifCond .ne 6, 3) := by decide +kernel
theorem dX12_how_8 : decode cX12_how 8 = .ok (.bipush (-2), 2) := by decide +kernel
theorem dX12_how_10 : decode cX12_how 10 = .ok (.ireturn, 1) := by decide +kernel
theorem dX12_how_11 : decode cX12_how 11 = .ok (.iconst 0, 1) := by decide +kernel
theorem dX12_how_12 : decode cX12_how 12 = .ok (.istore_n 2, 1) := by decide +kernel
theorem dX12_how_13 : decode cX12_how 13 = .ok (.iconst 0, 1) := by decide +kernel
theorem dX12_how_14 : decode cX12_how 14 = .ok (.istore_n 3, 1) := by decide +kernel
theorem dX12_how_15 : decode cX12_how 15 = .ok (.iload_n 3, 1) := by decide +kernel
theorem dX12_how_16 : decode cX12_how 16 = .ok (.bipush 9, 2) := by decide +kernel
theorem dX12_how_18 : decode cX12_how 18 = .ok (.if_icmp .ge 54, 3) := by decide +kernel
theorem dX12_how_21 : decode cX12_how 21 = .ok (.iload_n 2, 1) := by decide +kernel
theorem dX12_how_22 : decode cX12_how 22 = .ok (.aload_n 0, 1) := by decide +kernel
theorem dX12_how_23 : decode cX12_how 23 = .ok (.aload_n 0, 1) := by decide +kernel
theorem dX12_how_24 : decode cX12_how 24 = .ok (.getfield 17, 3) := by decide +kernel
theorem dX12_how_27 : decode cX12_how 27 = .ok (.iload_n 1, 1) := by decide +kernel
theorem dX12_how_28 : decode cX12_how 28 = .ok (.iaload, 1) := by decide +kernel
theorem dX12_how_29 : decode cX12_how 29 = .ok (.aload_n 0, 1) := by decide +kernel
theorem dX12_how_30 : decode cX12_how 30 = .ok (.getfield 17, 3) := by decide +kernel
theorem dX12_how_33 : decode cX12_how 33 = .ok (.iload_n 1, 1) := by decide +kernel
theorem dX12_how_34 : decode cX12_how 34 = .ok (.iaload, 1) := by decide +kernel
theorem dX12_how_35 : decode cX12_how 35 = .ok (.aload_n 0, 1) := by decide +kernel
theorem dX12_how_36 : decode cX12_how 36 = .ok (.getfield 20, 3) := by decide +kernel
theorem dX12_how_39 : decode cX12_how 39 = .ok (.iload_n 1, 1) := by decide +kernel
theorem dX12_how_40 : decode cX12_how 40 = .ok (.iaload, 1) := by decide +kernel
theorem dX12_how_41 : decode cX12_how 41 = .ok (.aload_n 0, 1) := by decide +kernel
theorem dX12_how_42 : decode cX12_how 42 = .ok (.getfield 23, 3) := by decide +kernel
theorem dX12_how_45 : decode cX12_how 45 = .ok (.iload_n 1, 1) := by decide +kernel
theorem dX12_how_46 : decode cX12_how 46 = .ok (.iaload, 1) := by decide +kernel
theorem dX12_how_47 : decode cX12_how 47 = .ok (.iload_n 3, 1) := by decide +kernel
theorem dX12_how_48 : decode cX12_how 48 = .ok (.invokestatic 219, 3) := by decide +kernel
theorem dX12_how_51 : decode cX12_how 51 = .ok (.invokevirtual 298, 3) := by decide +kernel
theorem dX12_how_54 : decode cX12_how 54 = .ok (.ifCond .eq 9, 3) := by decide +kernel
theorem dX12_how_57 : decode cX12_how 57 = .ok (.iconst 1, 1) := by decide +kernel
theorem dX12_how_58 : decode cX12_how 58 = .ok (.iload_n 3, 1) := by decide +kernel
theorem dX12_how_59 : decode cX12_how 59 = .ok (.ishl, 1) := by decide +kernel
theorem dX12_how_60 : decode cX12_how 60 = .ok (.goto 4, 3) := by decide +kernel
theorem dX12_how_63 : decode cX12_how 63 = .ok (.iconst 0, 1) := by decide +kernel
theorem dX12_how_64 : decode cX12_how 64 = .ok (.ior, 1) := by decide +kernel
theorem dX12_how_65 : decode cX12_how 65 = .ok (.istore_n 2, 1) := by decide +kernel
theorem dX12_how_66 : decode cX12_how 66 = .ok (.iinc 3 1, 3) := by decide +kernel
theorem dX12_how_69 : decode cX12_how 69 = .ok (.goto (-54), 3) := by decide +kernel
theorem dX12_how_72 : decode cX12_how 72 = .ok (.iload_n 2, 1) := by decide +kernel
theorem dX12_how_73 : decode cX12_how 73 = .ok (.ireturn, 1) := by decide +kernel
theorem dX12_choices_0 : decode cX12_choices 0 = .ok (.iconst 1, 1) := by decide +kernel
theorem dX12_choices_1 : decode cX12_choices 1 = .ok (.istore_n 2, 1) := by decide +kernel
theorem dX12_choices_2 : decode cX12_choices 2 = .ok (.iconst 0, 1) := by decide +kernel
theorem dX12_choices_3 : decode cX12_choices 3 = .ok (.istore_n 3, 1) := by decide +kernel
theorem dX12_choices_4 : decode cX12_choices 4 = .ok (.iload_n 3, 1) := by decide +kernel
theorem dX12_choices_5 : decode cX12_choices 5 = .ok (.iload_n 1, 1) := by decide +kernel
theorem dX12_choices_6 : decode cX12_choices 6 = .ok (.if_icmp .ge 19, 3) := by decide +kernel
theorem dX12_choices_9 : decode cX12_choices 9 = .ok (.iload_n 2, 1) := by decide +kernel
theorem dX12_choices_10 : decode cX12_choices 10 = .ok (.iload_n 0, 1) := by decide +kernel
theorem dX12_choices_11 : decode cX12_choices 11 = .ok (.iload_n 3, 1) := by decide +kernel
theorem dX12_choices_12 : decode cX12_choices 12 = .ok (.isub, 1) := by decide +kernel
theorem dX12_choices_13 : decode cX12_choices 13 = .ok (.imul, 1) := by decide +kernel
theorem dX12_choices_14 : decode cX12_choices 14 = .ok (.iload_n 3, 1) := by decide +kernel
theorem dX12_choices_15 : decode cX12_choices 15 = .ok (.iconst 1, 1) := by decide +kernel
theorem dX12_choices_16 : decode cX12_choices 16 = .ok (.iadd, 1) := by decide +kernel
theorem dX12_choices_17 : decode cX12_choices 17 = .ok (.idiv, 1) := by decide +kernel
theorem dX12_choices_18 : decode cX12_choices 18 = .ok (.istore_n 2, 1) := by decide +kernel
theorem dX12_choices_19 : decode cX12_choices 19 = .ok (.iinc 3 1, 3) := by decide +kernel
theorem dX12_choices_22 : decode cX12_choices 22 = .ok (.goto (-18), 3) := by decide +kernel
theorem dX12_choices_25 : decode cX12_choices 25 = .ok (.iload_n 1, 1) := by decide +kernel
theorem dX12_choices_26 : decode cX12_choices 26 = .ok (.iload_n 0, 1) := by decide +kernel
theorem dX12_choices_27 : decode cX12_choices 27 = .ok (.if_icmp .le 7, 3) := by decide +kernel
theorem dX12_choices_30 : decode cX12_choices 30 = .ok (.iconst 0, 1) := by decide +kernel
theorem dX12_choices_31 : decode cX12_choices 31 = .ok (.goto 4, 3) := by decide +kernel
theorem dX12_choices_34 : decode cX12_choices 34 = .ok (.iload_n 2, 1) := by decide +kernel
theorem dX12_choices_35 : decode cX12_choices 35 = .ok (.ireturn, 1) := by decide +kernel
set_option maxRecDepth 20000 in
theorem ggX12_odds_X12_in : GoodIn wsX12_odds wsX12_in := goodIn_r _ [6] rfl (by decide +kernel)
set_option maxRecDepth 20000 in
theorem gX12_odds_X12_in : GoodIn wsX12_odds (va_wsS RX12 111 yX12_in wsX12_in) := goodIn_app (goodIn_of _ (by decide +kernel)) ggX12_odds_X12_in
set_option maxRecDepth 20000 in
theorem ggX12_odds_X12_isLock : GoodIn wsX12_odds wsX12_isLock := goodIn_r _ [10, 11, 3, 4, 5, 6, 48, 49, 50, 51, 52, 53, 54, 55, 56, 57, 58, 59, 60, 61, 62, 63, 64, 65, 66, 67, 68, 69, 70, 71, 72, 73, 74, 75, 76, 77, 78, 79, 80, 81, 82, 83, 84, 85, 86, 87, 88, 89, 90, 91, 92] rfl (by decide +kernel)
set_option maxRecDepth 20000 in
theorem gX12_odds_X12_isLock : GoodIn wsX12_odds (wsV RX12 243 RX12 yX12_isLock wsX12_isLock) := goodIn_app (goodIn_of _ (by decide +kernel)) ggX12_odds_X12_isLock
set_option maxRecDepth 20000 in
theorem ggX12_odds_X12_bits : GoodIn wsX12_odds wsX12_bits := goodIn_r _ [14] rfl (by decide +kernel)
set_option maxRecDepth 20000 in
theorem gX12_odds_X12_bits : GoodIn wsX12_odds (va_wsS RX12 223 yX12_bits wsX12_bits) := goodIn_app (goodIn_of _ (by decide +kernel)) ggX12_odds_X12_bits
set_option maxRecDepth 20000 in
theorem ggX12_odds_X12_has : GoodIn wsX12_odds wsX12_has := goodIn_r _ [17] rfl (by decide +kernel)
set_option maxRecDepth 20000 in
theorem gX12_odds_X12_has : GoodIn wsX12_odds (va_wsS RX12 211 yX12_has wsX12_has) := goodIn_app (goodIn_of _ (by decide +kernel)) ggX12_odds_X12_has
set_option maxRecDepth 20000 in
theorem ggX12_odds_X12_doesGo : GoodIn wsX12_odds wsX12_doesGo := goodIn_r _ [21, 22, 23, 24, 25, 5, 26, 27, 28, 29, 30, 31, 32, 33, 34, 35, 15, 16, 17, 36, 37, 38, 39, 40, 41, 12, 13, 14, 42, 43, 44, 48, 49, 50, 51, 52, 53, 54, 55, 56, 57, 58, 59, 60, 61, 62, 63, 64, 65, 66, 67, 68, 69, 70, 71, 72, 73, 74, 75, 76, 77, 78, 79, 80, 81, 82, 83, 84, 85, 86, 87, 88, 89, 90, 91, 92] rfl (by decide +kernel)
set_option maxRecDepth 20000 in
theorem gX12_odds_X12_doesGo : GoodIn wsX12_odds (wsV RX12 249 RX12 yX12_doesGo wsX12_doesGo) := goodIn_app (goodIn_of _ (by decide +kernel)) ggX12_odds_X12_doesGo
set_option maxRecDepth 20000 in
theorem ggX12_odds_X12_choices : GoodIn wsX12_odds wsX12_choices := goodIn_r _ [47] rfl (by decide +kernel)
set_option maxRecDepth 20000 in
theorem gX12_odds_X12_choices : GoodIn wsX12_odds (va_wsS RX12 301 yX12_choices wsX12_choices) := goodIn_app (goodIn_of _ (by decide +kernel)) ggX12_odds_X12_choices
theorem dX12_odds_0 : decode cX12_odds 0 = .ok (.iload_n 1, 1) := by decide +kernel
theorem dX12_odds_1 : decode cX12_odds 1 = .ok (.i2l, 1) := by decide +kernel
theorem dX12_odds_2 : decode cX12_odds 2 = .ok (.lconst 0, 1) := by decide +kernel
theorem dX12_odds_3 : decode cX12_odds 3 = .ok (.iconst 1, 1) := by decide +kernel
theorem dX12_odds_4 : decode cX12_odds 4 = .ok (.aload_n 0, 1) := by decide +kernel
theorem dX12_odds_5 : decode cX12_odds 5 = .ok (.getfield 142, 3) := by decide +kernel
theorem dX12_odds_8 : decode cX12_odds 8 = .ok (.ishl, 1) := by decide +kernel
theorem dX12_odds_9 : decode cX12_odds 9 = .ok (.iconst 1, 1) := by decide +kernel
theorem dX12_odds_10 : decode cX12_odds 10 = .ok (.isub, 1) := by decide +kernel
theorem dX12_odds_11 : decode cX12_odds 11 = .ok (.i2l, 1) := by decide +kernel
theorem dX12_odds_12 : decode cX12_odds 12 = .ok (.invokestatic 111, 3) := by decide +kernel
theorem dX12_odds_15 : decode cX12_odds 15 = .ok (.ifCond .eq 11, 3) := by decide +kernel
theorem dX12_odds_18 : decode cX12_odds 18 = .ok (.aload_n 0, 1) := by decide +kernel
theorem dX12_odds_19 : decode cX12_odds 19 = .ok (.iload_n 2, 1) := by decide +kernel
theorem dX12_odds_20 : decode cX12_odds 20 = .ok (.invokevirtual 243, 3) := by decide +kernel
theorem dX12_odds_23 : decode cX12_odds 23 = .ok (.ifCond .ne 6, 3) := by decide +kernel
theorem dX12_odds_26 : decode cX12_odds 26 = .ok (.bipush (-2), 2) := by decide +kernel
theorem dX12_odds_28 : decode cX12_odds 28 = .ok (.ireturn, 1) := by decide +kernel
theorem dX12_odds_29 : decode cX12_odds 29 = .ok (.iload_n 3, 1) := by decide +kernel
theorem dX12_odds_30 : decode cX12_odds 30 = .ok (.i2l, 1) := by decide +kernel
theorem dX12_odds_31 : decode cX12_odds 31 = .ok (.lconst 0, 1) := by decide +kernel
theorem dX12_odds_32 : decode cX12_odds 32 = .ok (.ldc2_w 284, 3) := by decide +kernel
theorem dX12_odds_35 : decode cX12_odds 35 = .ok (.invokestatic 111, 3) := by decide +kernel
theorem dX12_odds_38 : decode cX12_odds 38 = .ok (.ifCond .eq 14, 3) := by decide +kernel
theorem dX12_odds_41 : decode cX12_odds 41 = .ok (.iload 4, 2) := by decide +kernel
theorem dX12_odds_43 : decode cX12_odds 43 = .ok (.i2l, 1) := by decide +kernel
theorem dX12_odds_44 : decode cX12_odds 44 = .ok (.lconst 0, 1) := by decide +kernel
theorem dX12_odds_45 : decode cX12_odds 45 = .ok (.lconst 1, 1) := by decide +kernel
theorem dX12_odds_46 : decode cX12_odds 46 = .ok (.invokestatic 111, 3) := by decide +kernel
theorem dX12_odds_49 : decode cX12_odds 49 = .ok (.ifCond .ne 6, 3) := by decide +kernel
theorem dX12_odds_52 : decode cX12_odds 52 = .ok (.bipush (-3), 2) := by decide +kernel
theorem dX12_odds_54 : decode cX12_odds 54 = .ok (.ireturn, 1) := by decide +kernel
theorem dX12_odds_55 : decode cX12_odds 55 = .ok (.iload_n 1, 1) := by decide +kernel
theorem dX12_odds_56 : decode cX12_odds 56 = .ok (.ifCond .ne 6, 3) := by decide +kernel
theorem dX12_odds_59 : decode cX12_odds 59 = .ok (.bipush (-16), 2) := by decide +kernel
theorem dX12_odds_61 : decode cX12_odds 61 = .ok (.ireturn, 1) := by decide +kernel
theorem dX12_odds_62 : decode cX12_odds 62 = .ok (.iload_n 1, 1) := by decide +kernel
theorem dX12_odds_63 : decode cX12_odds 63 = .ok (.invokestatic 223, 3) := by decide +kernel
theorem dX12_odds_66 : decode cX12_odds 66 = .ok (.istore 5, 2) := by decide +kernel
theorem dX12_odds_68 : decode cX12_odds 68 = .ok (.iconst 0, 1) := by decide +kernel
theorem dX12_odds_69 : decode cX12_odds 69 = .ok (.istore 6, 2) := by decide +kernel
theorem dX12_odds_71 : decode cX12_odds 71 = .ok (.iconst 0, 1) := by decide +kernel
theorem dX12_odds_72 : decode cX12_odds 72 = .ok (.istore 7, 2) := by decide +kernel
theorem dX12_odds_74 : decode cX12_odds 74 = .ok (.iload 7, 2) := by decide +kernel
theorem dX12_odds_76 : decode cX12_odds 76 = .ok (.aload_n 0, 1) := by decide +kernel
theorem dX12_odds_77 : decode cX12_odds 77 = .ok (.getfield 142, 3) := by decide +kernel
theorem dX12_odds_80 : decode cX12_odds 80 = .ok (.if_icmp .ge 38, 3) := by decide +kernel
theorem dX12_odds_83 : decode cX12_odds 83 = .ok (.iload 6, 2) := by decide +kernel
theorem dX12_odds_85 : decode cX12_odds 85 = .ok (.iload_n 1, 1) := by decide +kernel
theorem dX12_odds_86 : decode cX12_odds 86 = .ok (.iload 7, 2) := by decide +kernel
theorem dX12_odds_88 : decode cX12_odds 88 = .ok (.invokestatic 211, 3) := by decide +kernel
theorem dX12_odds_91 : decode cX12_odds 91 = .ok (.ifCond .eq 17, 3) := by decide +kernel
theorem dX12_odds_94 : decode cX12_odds 94 = .ok (.aload_n 0, 1) := by decide +kernel
theorem dX12_odds_95 : decode cX12_odds 95 = .ok (.iload 7, 2) := by decide +kernel
theorem dX12_odds_97 : decode cX12_odds 97 = .ok (.iload_n 2, 1) := by decide +kernel
theorem dX12_odds_98 : decode cX12_odds 98 = .ok (.invokevirtual 249, 3) := by decide +kernel
theorem dX12_odds_101 : decode cX12_odds 101 = .ok (.ifCond .ne 7, 3) := by decide +kernel
theorem dX12_odds_104 : decode cX12_odds 104 = .ok (.iconst 1, 1) := by decide +kernel
theorem dX12_odds_105 : decode cX12_odds 105 = .ok (.goto 4, 3) := by decide +kernel
theorem dX12_odds_108 : decode cX12_odds 108 = .ok (.iconst 0, 1) := by decide +kernel
theorem dX12_odds_109 : decode cX12_odds 109 = .ok (.iadd, 1) := by decide +kernel
theorem dX12_odds_110 : decode cX12_odds 110 = .ok (.istore 6, 2) := by decide +kernel
theorem dX12_odds_112 : decode cX12_odds 112 = .ok (.iinc 7 1, 3) := by decide +kernel
theorem dX12_odds_115 : decode cX12_odds 115 = .ok (.goto (-41), 3) := by decide +kernel
theorem dX12_odds_118 : decode cX12_odds 118 = .ok (.iload_n 3, 1) := by decide +kernel
theorem dX12_odds_119 : decode cX12_odds 119 = .ok (.iload 5, 2) := by decide +kernel
theorem dX12_odds_121 : decode cX12_odds 121 = .ok (.if_icmp .ge 7, 3) := by decide +kernel
theorem dX12_odds_124 : decode cX12_odds 124 = .ok (.iload_n 3, 1) := by decide +kernel
theorem dX12_odds_125 : decode cX12_odds 125 = .ok (.goto 5, 3) := by decide +kernel
theorem dX12_odds_128 : decode cX12_odds 128 = .ok (.iload 5, 2) := by decide +kernel
theorem dX12_odds_130 : decode cX12_odds 130 = .ok (.istore 7, 2) := by decide +kernel
theorem dX12_odds_132 : decode cX12_odds 132 = .ok (.iload 5, 2) := by decide +kernel
theorem dX12_odds_134 : decode cX12_odds 134 = .ok (.iload 7, 2) := by decide +kernel
theorem dX12_odds_136 : decode cX12_odds 136 = .ok (.invokestatic 301, 3) := by decide +kernel
theorem dX12_odds_139 : decode cX12_odds 139 = .ok (.istore 8, 2) := by decide +kernel
theorem dX12_odds_141 : decode cX12_odds 141 = .ok (.iload 8, 2) := by decide +kernel
theorem dX12_odds_143 : decode cX12_odds 143 = .ok (.iload 6, 2) := by decide +kernel
theorem dX12_odds_145 : decode cX12_odds 145 = .ok (.iload 7, 2) := by decide +kernel
theorem dX12_odds_147 : decode cX12_odds 147 = .ok (.invokestatic 301, 3) := by decide +kernel
theorem dX12_odds_150 : decode cX12_odds 150 = .ok (.isub, 1) := by decide +kernel
theorem dX12_odds_151 : decode cX12_odds 151 = .ok (.istore 9, 2) := by decide +kernel
theorem dX12_odds_153 : decode cX12_odds 153 = .ok (.iload 9, 2) := by decide +kernel
theorem dX12_odds_155 : decode cX12_odds 155 = .ok (.istore 10, 2) := by decide +kernel
theorem dX12_odds_157 : decode cX12_odds 157 = .ok (.iload 8, 2) := by decide +kernel
theorem dX12_odds_159 : decode cX12_odds 159 = .ok (.istore 11, 2) := by decide +kernel
theorem dX12_odds_161 : decode cX12_odds 161 = .ok (.iload 11, 2) := by decide +kernel
theorem dX12_odds_163 : decode cX12_odds 163 = .ok (.ifCond .eq 21, 3) := by decide +kernel
theorem dX12_odds_166 : decode cX12_odds 166 = .ok (.iload 10, 2) := by decide +kernel
theorem dX12_odds_168 : decode cX12_odds 168 = .ok (.iload 11, 2) := by decide +kernel
theorem dX12_odds_170 : decode cX12_odds 170 = .ok (.irem, 1) := by decide +kernel
theorem dX12_odds_171 : decode cX12_odds 171 = .ok (.istore 12, 2) := by decide +kernel
theorem dX12_odds_173 : decode cX12_odds 173 = .ok (.iload 11, 2) := by decide +kernel
theorem dX12_odds_175 : decode cX12_odds 175 = .ok (.istore 10, 2) := by decide +kernel
theorem dX12_odds_177 : decode cX12_odds 177 = .ok (.iload 12, 2) := by decide +kernel
theorem dX12_odds_179 : decode cX12_odds 179 = .ok (.istore 11, 2) := by decide +kernel
theorem dX12_odds_181 : decode cX12_odds 181 = .ok (.goto (-20), 3) := by decide +kernel
theorem dX12_odds_184 : decode cX12_odds 184 = .ok (.iload 4, 2) := by decide +kernel
theorem dX12_odds_186 : decode cX12_odds 186 = .ok (.ifCond .ne 11, 3) := by decide +kernel
theorem dX12_odds_189 : decode cX12_odds 189 = .ok (.iload 9, 2) := by decide +kernel
theorem dX12_odds_191 : decode cX12_odds 191 = .ok (.iload 10, 2) := by decide +kernel
theorem dX12_odds_193 : decode cX12_odds 193 = .ok (.idiv, 1) := by decide +kernel
theorem dX12_odds_194 : decode cX12_odds 194 = .ok (.goto 8, 3) := by decide +kernel
theorem dX12_odds_197 : decode cX12_odds 197 = .ok (.iload 8, 2) := by decide +kernel
theorem dX12_odds_199 : decode cX12_odds 199 = .ok (.iload 10, 2) := by decide +kernel
theorem dX12_odds_201 : decode cX12_odds 201 = .ok (.idiv, 1) := by decide +kernel
theorem dX12_odds_202 : decode cX12_odds 202 = .ok (.ireturn, 1) := by decide +kernel
set_option maxRecDepth 20000 in
theorem ggX12_isRack_X12_in : GoodIn wsX12_isRack wsX12_in := goodIn_r _ [5] rfl (by decide +kernel)
set_option maxRecDepth 20000 in
theorem gX12_isRack_X12_in : GoodIn wsX12_isRack (va_wsS RX12 111 yX12_in wsX12_in) := goodIn_app (goodIn_of _ (by decide +kernel)) ggX12_isRack_X12_in
theorem dX12_isRack_0 : decode cX12_isRack 0 = .ok (.iload_n 0, 1) := by decide +kernel
theorem dX12_isRack_1 : decode cX12_isRack 1 = .ok (.i2l, 1) := by decide +kernel
theorem dX12_isRack_2 : decode cX12_isRack 2 = .ok (.lconst 0, 1) := by decide +kernel
theorem dX12_isRack_3 : decode cX12_isRack 3 = .ok (.ldc2_w 304, 3) := by decide +kernel
theorem dX12_isRack_6 : decode cX12_isRack 6 = .ok (.invokestatic 111, 3) := by decide +kernel
theorem dX12_isRack_9 : decode cX12_isRack 9 = .ok (.ireturn, 1) := by decide +kernel
theorem dX12_isSpan_0 : decode cX12_isSpan 0 = .ok (.iload_n 2, 1) := by decide +kernel
theorem dX12_isSpan_1 : decode cX12_isSpan 1 = .ok (.ifCond .lt 27, 3) := by decide +kernel
theorem dX12_isSpan_4 : decode cX12_isSpan 4 = .ok (.iload_n 3, 1) := by decide +kernel
theorem dX12_isSpan_5 : decode cX12_isSpan 5 = .ok (.ifCond .lt 23, 3) := by decide +kernel
theorem dX12_isSpan_8 : decode cX12_isSpan 8 = .ok (.iload_n 2, 1) := by decide +kernel
theorem dX12_isSpan_9 : decode cX12_isSpan 9 = .ok (.i2l, 1) := by decide +kernel
theorem dX12_isSpan_10 : decode cX12_isSpan 10 = .ok (.iload_n 3, 1) := by decide +kernel
theorem dX12_isSpan_11 : decode cX12_isSpan 11 = .ok (.i2l, 1) := by decide +kernel
theorem dX12_isSpan_12 : decode cX12_isSpan 12 = .ok (.ladd, 1) := by decide +kernel
theorem dX12_isSpan_13 : decode cX12_isSpan 13 = .ok (.aload_n 0, 1) := by decide +kernel
theorem dX12_isSpan_14 : decode cX12_isSpan 14 = .ok (.getfield 99, 3) := by decide +kernel
theorem dX12_isSpan_17 : decode cX12_isSpan 17 = .ok (.iload_n 1, 1) := by decide +kernel
theorem dX12_isSpan_18 : decode cX12_isSpan 18 = .ok (.iaload, 1) := by decide +kernel
theorem dX12_isSpan_19 : decode cX12_isSpan 19 = .ok (.i2l, 1) := by decide +kernel
theorem dX12_isSpan_20 : decode cX12_isSpan 20 = .ok (.lcmp, 1) := by decide +kernel
theorem dX12_isSpan_21 : decode cX12_isSpan 21 = .ok (.ifCond .gt 7, 3) := by decide +kernel
theorem dX12_isSpan_24 : decode cX12_isSpan 24 = .ok (.iconst 1, 1) := by decide +kernel
theorem dX12_isSpan_25 : decode cX12_isSpan 25 = .ok (.goto 4, 3) := by decide +kernel
theorem dX12_isSpan_28 : decode cX12_isSpan 28 = .ok (.iconst 0, 1) := by decide +kernel
theorem dX12_isSpan_29 : decode cX12_isSpan 29 = .ok (.ireturn, 1) := by decide +kernel
theorem dX12_cut_0 : decode cX12_cut 0 = .ok (.iload_n 0, 1) := by decide +kernel
theorem dX12_cut_1 : decode cX12_cut 1 = .ok (.ifCond .ne 10, 3) := by decide +kernel
theorem dX12_cut_4 : decode cX12_cut 4 = .ok (.lload_n 1, 1) := by decide +kernel
theorem dX12_cut_5 : decode cX12_cut 5 = .ok (.l2i, 1) := by decide +kernel
theorem dX12_cut_6 : decode cX12_cut 6 = .ok (.i2b, 1) := by decide +kernel
theorem dX12_cut_7 : decode cX12_cut 7 = .ok (.i2l, 1) := by decide +kernel
theorem dX12_cut_8 : decode cX12_cut 8 = .ok (.goto 38, 3) := by decide +kernel
theorem dX12_cut_11 : decode cX12_cut 11 = .ok (.iload_n 0, 1) := by decide +kernel
theorem dX12_cut_12 : decode cX12_cut 12 = .ok (.iconst 1, 1) := by decide +kernel
theorem dX12_cut_13 : decode cX12_cut 13 = .ok (.if_icmp .ne 10, 3) := by decide +kernel
theorem dX12_cut_16 : decode cX12_cut 16 = .ok (.lload_n 1, 1) := by decide +kernel
theorem dX12_cut_17 : decode cX12_cut 17 = .ok (.l2i, 1) := by decide +kernel
theorem dX12_cut_18 : decode cX12_cut 18 = .ok (.i2s, 1) := by decide +kernel
theorem dX12_cut_19 : decode cX12_cut 19 = .ok (.i2l, 1) := by decide +kernel
theorem dX12_cut_20 : decode cX12_cut 20 = .ok (.goto 26, 3) := by decide +kernel
theorem dX12_cut_23 : decode cX12_cut 23 = .ok (.iload_n 0, 1) := by decide +kernel
theorem dX12_cut_24 : decode cX12_cut 24 = .ok (.iconst 2, 1) := by decide +kernel
theorem dX12_cut_25 : decode cX12_cut 25 = .ok (.if_icmp .ne 9, 3) := by decide +kernel
theorem dX12_cut_28 : decode cX12_cut 28 = .ok (.lload_n 1, 1) := by decide +kernel
theorem dX12_cut_29 : decode cX12_cut 29 = .ok (.l2i, 1) := by decide +kernel
theorem dX12_cut_30 : decode cX12_cut 30 = .ok (.i2l, 1) := by decide +kernel
theorem dX12_cut_31 : decode cX12_cut 31 = .ok (.goto 15, 3) := by decide +kernel
theorem dX12_cut_34 : decode cX12_cut 34 = .ok (.iload_n 0, 1) := by decide +kernel
theorem dX12_cut_35 : decode cX12_cut 35 = .ok (.iconst 3, 1) := by decide +kernel
theorem dX12_cut_36 : decode cX12_cut 36 = .ok (.if_icmp .ne 7, 3) := by decide +kernel
theorem dX12_cut_39 : decode cX12_cut 39 = .ok (.lload_n 1, 1) := by decide +kernel
theorem dX12_cut_40 : decode cX12_cut 40 = .ok (.goto 6, 3) := by decide +kernel
theorem dX12_cut_43 : decode cX12_cut 43 = .ok (.lload_n 1, 1) := by decide +kernel
theorem dX12_cut_44 : decode cX12_cut 44 = .ok (.lconst 1, 1) := by decide +kernel
theorem dX12_cut_45 : decode cX12_cut 45 = .ok (.land, 1) := by decide +kernel
theorem dX12_cut_46 : decode cX12_cut 46 = .ok (.lreturn, 1) := by decide +kernel
set_option maxRecDepth 20000 in
theorem ggX12_rack_X12_isRack : GoodIn wsX12_rack wsX12_isRack := goodIn_r _ [8, 9, 10, 11, 7, 12] rfl (by decide +kernel)
set_option maxRecDepth 20000 in
theorem gX12_rack_X12_isRack : GoodIn wsX12_rack (va_wsS RX12 306 yX12_isRack wsX12_isRack) := goodIn_app (goodIn_of _ (by decide +kernel)) ggX12_rack_X12_isRack
set_option maxRecDepth 20000 in
theorem ggX12_rack_X12_in : GoodIn wsX12_rack wsX12_in := goodIn_r _ [12] rfl (by decide +kernel)
set_option maxRecDepth 20000 in
theorem gX12_rack_X12_in : GoodIn wsX12_rack (va_wsS RX12 111 yX12_in wsX12_in) := goodIn_app (goodIn_of _ (by decide +kernel)) ggX12_rack_X12_in
theorem dX12_rack_0 : decode cX12_rack 0 = .ok (.iload_n 1, 1) := by decide +kernel
theorem dX12_rack_1 : decode cX12_rack 1 = .ok (.invokestatic 306, 3) := by decide +kernel
theorem dX12_rack_4 : decode cX12_rack 4 = .ok (.ifCond .ne 6, 3) := by decide +kernel
theorem dX12_rack_7 : decode cX12_rack 7 = .ok (.bipush (-2), 2) := by decide +kernel
theorem dX12_rack_9 : decode cX12_rack 9 = .ok (.ireturn, 1) := by decide +kernel
theorem dX12_rack_10 : decode cX12_rack 10 = .ok (.iload_n 2, 1) := by decide +kernel
theorem dX12_rack_11 : decode cX12_rack 11 = .ok (.i2l, 1) := by decide +kernel
theorem dX12_rack_12 : decode cX12_rack 12 = .ok (.lconst 0, 1) := by decide +kernel
theorem dX12_rack_13 : decode cX12_rack 13 = .ok (.ldc2_w 252, 3) := by decide +kernel
theorem dX12_rack_16 : decode cX12_rack 16 = .ok (.invokestatic 111, 3) := by decide +kernel
theorem dX12_rack_19 : decode cX12_rack 19 = .ok (.ifCond .eq 9, 3) := by decide +kernel
theorem dX12_rack_22 : decode cX12_rack 22 = .ok (.iload_n 3, 1) := by decide +kernel
theorem dX12_rack_23 : decode cX12_rack 23 = .ok (.bipush 24, 2) := by decide +kernel
theorem dX12_rack_25 : decode cX12_rack 25 = .ok (.if_icmp .le 6, 3) := by decide +kernel
theorem dX12_rack_28 : decode cX12_rack 28 = .ok (.bipush (-3), 2) := by decide +kernel
theorem dX12_rack_30 : decode cX12_rack 30 = .ok (.ireturn, 1) := by decide +kernel
theorem dX12_rack_31 : decode cX12_rack 31 = .ok (.iload_n 3, 1) := by decide +kernel
theorem dX12_rack_32 : decode cX12_rack 32 = .ok (.ifCond .ge 6, 3) := by decide +kernel
theorem dX12_rack_35 : decode cX12_rack 35 = .ok (.bipush (-14), 2) := by decide +kernel
theorem dX12_rack_37 : decode cX12_rack 37 = .ok (.ireturn, 1) := by decide +kernel
theorem dX12_rack_38 : decode cX12_rack 38 = .ok (.aload_n 0, 1) := by decide +kernel
theorem dX12_rack_39 : decode cX12_rack 39 = .ok (.getfield 96, 3) := by decide +kernel
theorem dX12_rack_42 : decode cX12_rack 42 = .ok (.iload_n 1, 1) := by decide +kernel
theorem dX12_rack_43 : decode cX12_rack 43 = .ok (.iload_n 2, 1) := by decide +kernel
theorem dX12_rack_44 : decode cX12_rack 44 = .ok (.iastore, 1) := by decide +kernel
theorem dX12_rack_45 : decode cX12_rack 45 = .ok (.aload_n 0, 1) := by decide +kernel
theorem dX12_rack_46 : decode cX12_rack 46 = .ok (.getfield 99, 3) := by decide +kernel
theorem dX12_rack_49 : decode cX12_rack 49 = .ok (.iload_n 1, 1) := by decide +kernel
theorem dX12_rack_50 : decode cX12_rack 50 = .ok (.iload_n 3, 1) := by decide +kernel
theorem dX12_rack_51 : decode cX12_rack 51 = .ok (.iastore, 1) := by decide +kernel
theorem dX12_rack_52 : decode cX12_rack 52 = .ok (.iconst 0, 1) := by decide +kernel
theorem dX12_rack_53 : decode cX12_rack 53 = .ok (.istore 4, 2) := by decide +kernel
theorem dX12_rack_55 : decode cX12_rack 55 = .ok (.iload 4, 2) := by decide +kernel
theorem dX12_rack_57 : decode cX12_rack 57 = .ok (.iload_n 3, 1) := by decide +kernel
theorem dX12_rack_58 : decode cX12_rack 58 = .ok (.if_icmp .ge 22, 3) := by decide +kernel
theorem dX12_rack_61 : decode cX12_rack 61 = .ok (.aload_n 0, 1) := by decide +kernel
theorem dX12_rack_62 : decode cX12_rack 62 = .ok (.getfield 102, 3) := by decide +kernel
theorem dX12_rack_65 : decode cX12_rack 65 = .ok (.bipush 24, 2) := by decide +kernel
theorem dX12_rack_67 : decode cX12_rack 67 = .ok (.iload_n 1, 1) := by decide +kernel
theorem dX12_rack_68 : decode cX12_rack 68 = .ok (.imul, 1) := by decide +kernel
theorem dX12_rack_69 : decode cX12_rack 69 = .ok (.iload 4, 2) := by decide +kernel
theorem dX12_rack_71 : decode cX12_rack 71 = .ok (.iadd, 1) := by decide +kernel
theorem dX12_rack_72 : decode cX12_rack 72 = .ok (.lconst 0, 1) := by decide +kernel
theorem dX12_rack_73 : decode cX12_rack 73 = .ok (.lastore, 1) := by decide +kernel
theorem dX12_rack_74 : decode cX12_rack 74 = .ok (.iinc 4 1, 3) := by decide +kernel
theorem dX12_rack_77 : decode cX12_rack 77 = .ok (.goto (-22), 3) := by decide +kernel
theorem dX12_rack_80 : decode cX12_rack 80 = .ok (.iload_n 3, 1) := by decide +kernel
theorem dX12_rack_81 : decode cX12_rack 81 = .ok (.ireturn, 1) := by decide +kernel
theorem dX12_noRack_0 : decode cX12_noRack 0 = .ok (.aload_n 0, 1) := by decide +kernel
theorem dX12_noRack_1 : decode cX12_noRack 1 = .ok (.getfield 99, 3) := by decide +kernel
theorem dX12_noRack_4 : decode cX12_noRack 4 = .ok (.iload_n 1, 1) := by decide +kernel
theorem dX12_noRack_5 : decode cX12_noRack 5 = .ok (.iaload, 1) := by decide +kernel
theorem dX12_noRack_6 : decode cX12_noRack 6 = .ok (.ifCond .ge 8, 3) := by decide +kernel
theorem dX12_noRack_9 : decode cX12_noRack 9 = .ok (.bipush (-11), 2) := by decide +kernel
theorem dX12_noRack_11 : decode cX12_noRack 11 = .ok (.goto 19, 3) := by decide +kernel
theorem dX12_noRack_14 : decode cX12_noRack 14 = .ok (.aload_n 0, 1) := by decide +kernel
theorem dX12_noRack_15 : decode cX12_noRack 15 = .ok (.getfield 96, 3) := by decide +kernel
theorem dX12_noRack_18 : decode cX12_noRack 18 = .ok (.iload_n 1, 1) := by decide +kernel
theorem dX12_noRack_19 : decode cX12_noRack 19 = .ok (.iaload, 1) := by decide +kernel
theorem dX12_noRack_20 : decode cX12_noRack 20 = .ok (.iload_n 2, 1) := by decide +kernel
theorem dX12_noRack_21 : decode cX12_noRack 21 = .ok (.if_icmp .eq 8, 3) := by decide +kernel
theorem dX12_noRack_24 : decode cX12_noRack 24 = .ok (.bipush (-12), 2) := by decide +kernel
theorem dX12_noRack_26 : decode cX12_noRack 26 = .ok (.goto 4, 3) := by decide +kernel
theorem dX12_noRack_29 : decode cX12_noRack 29 = .ok (.iconst 0, 1) := by decide +kernel
theorem dX12_noRack_30 : decode cX12_noRack 30 = .ok (.ireturn, 1) := by decide +kernel
set_option maxRecDepth 20000 in
theorem ggX12_hang_X12_isRack : GoodIn wsX12_hang wsX12_isRack := goodIn_r _ [6, 7, 8, 9, 5, 10] rfl (by decide +kernel)
set_option maxRecDepth 20000 in
theorem gX12_hang_X12_isRack : GoodIn wsX12_hang (va_wsS RX12 306 yX12_isRack wsX12_isRack) := goodIn_app (goodIn_of _ (by decide +kernel)) ggX12_hang_X12_isRack
set_option maxRecDepth 20000 in
theorem ggX12_hang_X12_in : GoodIn wsX12_hang wsX12_in := goodIn_r _ [10] rfl (by decide +kernel)
set_option maxRecDepth 20000 in
theorem gX12_hang_X12_in : GoodIn wsX12_hang (va_wsS RX12 111 yX12_in wsX12_in) := goodIn_app (goodIn_of _ (by decide +kernel)) ggX12_hang_X12_in
set_option maxRecDepth 20000 in
theorem ggX12_hang_X12_noRack : GoodIn wsX12_hang wsX12_noRack := goodIn_r _ [14, 15, 16, 24, 25, 26, 27, 28, 29, 30, 31, 32, 33, 34, 35, 36, 37, 38, 39, 40, 41, 42, 43, 44, 45, 46, 47, 48, 49, 50, 51, 52, 53, 54, 55, 56, 57, 58, 59, 60, 61, 62, 63, 64, 65, 66, 67, 68] rfl (by decide +kernel)
set_option maxRecDepth 20000 in
theorem gX12_hang_X12_noRack : GoodIn wsX12_hang (wsV RX12 309 RX12 yX12_noRack wsX12_noRack) := goodIn_app (goodIn_of _ (by decide +kernel)) ggX12_hang_X12_noRack
set_option maxRecDepth 20000 in
theorem ggX12_hang_X12_isSpan : GoodIn wsX12_hang wsX12_isSpan := goodIn_r _ [20, 15, 24, 25, 26, 27, 28, 29, 30, 31, 32, 33, 34, 35, 36, 37, 38, 39, 40, 41, 42, 43, 44, 45, 46, 47, 48, 49, 50, 51, 52, 53, 54, 55, 56, 57, 58, 59, 60, 61, 62, 63, 64, 65, 66, 67, 68] rfl (by decide +kernel)
set_option maxRecDepth 20000 in
theorem gX12_hang_X12_isSpan : GoodIn wsX12_hang (wsV RX12 312 RX12 yX12_isSpan wsX12_isSpan) := goodIn_app (goodIn_of _ (by decide +kernel)) ggX12_hang_X12_isSpan
set_option maxRecDepth 20000 in
theorem ggX12_hang_X12_cut : GoodIn wsX12_hang wsX12_cut := goodIn_r _ [23] rfl (by decide +kernel)
set_option maxRecDepth 20000 in
theorem gX12_hang_X12_cut : GoodIn wsX12_hang (va_wsS RX12 315 yX12_cut wsX12_cut) := goodIn_app (goodIn_of _ (by decide +kernel)) ggX12_hang_X12_cut
theorem dX12_hang_0 : decode cX12_hang 0 = .ok (.iload_n 1, 1) := by decide +kernel
theorem dX12_hang_1 : decode cX12_hang 1 = .ok (.invokestatic 306, 3) := by decide +kernel
theorem dX12_hang_4 : decode cX12_hang 4 = .ok (.ifCond .ne 6, 3) := by decide +kernel
theorem dX12_hang_7 : decode cX12_hang 7 = .ok (.bipush (-2), 2) := by decide +kernel
theorem dX12_hang_9 : decode cX12_hang 9 = .ok (.ireturn, 1) := by decide +kernel
theorem dX12_hang_10 : decode cX12_hang 10 = .ok (.iload_n 2, 1) := by decide +kernel
theorem dX12_hang_11 : decode cX12_hang 11 = .ok (.i2l, 1) := by decide +kernel
theorem dX12_hang_12 : decode cX12_hang 12 = .ok (.lconst 0, 1) := by decide +kernel
theorem dX12_hang_13 : decode cX12_hang 13 = .ok (.ldc2_w 252, 3) := by decide +kernel
theorem dX12_hang_16 : decode cX12_hang 16 = .ok (.invokestatic 111, 3) := by decide +kernel
theorem dX12_hang_19 : decode cX12_hang 19 = .ok (.ifCond .ne 6, 3) := by decide +kernel
theorem dX12_hang_22 : decode cX12_hang 22 = .ok (.bipush (-3), 2) := by decide +kernel
theorem dX12_hang_24 : decode cX12_hang 24 = .ok (.ireturn, 1) := by decide +kernel
theorem dX12_hang_25 : decode cX12_hang 25 = .ok (.aload_n 0, 1) := by decide +kernel
theorem dX12_hang_26 : decode cX12_hang 26 = .ok (.iload_n 1, 1) := by decide +kernel
theorem dX12_hang_27 : decode cX12_hang 27 = .ok (.iload_n 2, 1) := by decide +kernel
theorem dX12_hang_28 : decode cX12_hang 28 = .ok (.invokevirtual 309, 3) := by decide +kernel
theorem dX12_hang_31 : decode cX12_hang 31 = .ok (.istore 6, 2) := by decide +kernel
theorem dX12_hang_33 : decode cX12_hang 33 = .ok (.iload 6, 2) := by decide +kernel
theorem dX12_hang_35 : decode cX12_hang 35 = .ok (.ifCond .eq 6, 3) := by decide +kernel
theorem dX12_hang_38 : decode cX12_hang 38 = .ok (.iload 6, 2) := by decide +kernel
theorem dX12_hang_40 : decode cX12_hang 40 = .ok (.ireturn, 1) := by decide +kernel
theorem dX12_hang_41 : decode cX12_hang 41 = .ok (.aload_n 0, 1) := by decide +kernel
theorem dX12_hang_42 : decode cX12_hang 42 = .ok (.iload_n 1, 1) := by decide +kernel
theorem dX12_hang_43 : decode cX12_hang 43 = .ok (.iload_n 3, 1) := by decide +kernel
theorem dX12_hang_44 : decode cX12_hang 44 = .ok (.iconst 1, 1) := by decide +kernel
theorem dX12_hang_45 : decode cX12_hang 45 = .ok (.invokevirtual 312, 3) := by decide +kernel
theorem dX12_hang_48 : decode cX12_hang 48 = .ok (.ifCond .ne 6, 3) := by decide +kernel
theorem dX12_hang_51 : decode cX12_hang 51 = .ok (.bipush (-13), 2) := by decide +kernel
theorem dX12_hang_53 : decode cX12_hang 53 = .ok (.ireturn, 1) := by decide +kernel
theorem dX12_hang_54 : decode cX12_hang 54 = .ok (.aload_n 0, 1) := by decide +kernel
theorem dX12_hang_55 : decode cX12_hang 55 = .ok (.getfield 102, 3) := by decide +kernel
theorem dX12_hang_58 : decode cX12_hang 58 = .ok (.bipush 24, 2) := by decide +kernel
theorem dX12_hang_60 : decode cX12_hang 60 = .ok (.iload_n 1, 1) := by decide +kernel
theorem dX12_hang_61 : decode cX12_hang 61 = .ok (.imul, 1) := by decide +kernel
theorem dX12_hang_62 : decode cX12_hang 62 = .ok (.iload_n 3, 1) := by decide +kernel
theorem dX12_hang_63 : decode cX12_hang 63 = .ok (.iadd, 1) := by decide +kernel
theorem dX12_hang_64 : decode cX12_hang 64 = .ok (.iload_n 2, 1) := by decide +kernel
theorem dX12_hang_65 : decode cX12_hang 65 = .ok (.lload 4, 2) := by decide +kernel
theorem dX12_hang_67 : decode cX12_hang 67 = .ok (.invokestatic 315, 3) := by decide +kernel
theorem dX12_hang_70 : decode cX12_hang 70 = .ok (.lastore, 1) := by decide +kernel
theorem dX12_hang_71 : decode cX12_hang 71 = .ok (.iconst 1, 1) := by decide +kernel
theorem dX12_hang_72 : decode cX12_hang 72 = .ok (.ireturn, 1) := by decide +kernel
set_option maxRecDepth 20000 in
theorem ggX12_look_X12_isRack : GoodIn wsX12_look wsX12_isRack := goodIn_r _ [13, 14, 15, 16, 12, 17] rfl (by decide +kernel)
set_option maxRecDepth 20000 in
theorem gX12_look_X12_isRack : GoodIn wsX12_look (va_wsS RX12 306 yX12_isRack wsX12_isRack) := goodIn_app (goodIn_of _ (by decide +kernel)) ggX12_look_X12_isRack
set_option maxRecDepth 20000 in
theorem ggX12_look_X12_isSpan : GoodIn wsX12_look wsX12_isSpan := goodIn_r _ [21, 2, 22, 23, 24, 25, 26, 27, 28, 29, 30, 31, 32, 33, 34, 35, 36, 37, 38, 39, 40, 41, 42, 43, 44, 45, 46, 47, 48, 49, 50, 51, 52, 53, 54, 55, 56, 57, 58, 59, 60, 61, 62, 63, 64, 65, 66] rfl (by decide +kernel)
set_option maxRecDepth 20000 in
theorem gX12_look_X12_isSpan : GoodIn wsX12_look (wsV RX12 312 RX12 yX12_isSpan wsX12_isSpan) := goodIn_app (goodIn_of _ (by decide +kernel)) ggX12_look_X12_isSpan
theorem dX12_look_0 : decode cX12_look 0 = .ok (.iload_n 1, 1) := by decide +kernel
theorem dX12_look_1 : decode cX12_look 1 = .ok (.invokestatic 306, 3) := by decide +kernel
theorem dX12_look_4 : decode cX12_look 4 = .ok (.ifCond .ne 7, 3) := by decide +kernel
theorem dX12_look_7 : decode cX12_look 7 = .ok (.ldc2_w 319, 3) := by decide +kernel
theorem dX12_look_10 : decode cX12_look 10 = .ok (.lreturn, 1) := by decide +kernel
theorem dX12_look_11 : decode cX12_look 11 = .ok (.aload_n 0, 1) := by decide +kernel
theorem dX12_look_12 : decode cX12_look 12 = .ok (.getfield 99, 3) := by decide +kernel
theorem dX12_look_15 : decode cX12_look 15 = .ok (.iload_n 1, 1) := by decide +kernel
theorem dX12_look_16 : decode cX12_look 16 = .ok (.iaload, 1) := by decide +kernel
theorem dX12_look_17 : decode cX12_look 17 = .ok (.ifCond .ge 7, 3) := by decide +kernel
theorem dX12_look_20 : decode cX12_look 20 = .ok (.ldc2_w 321, 3) := by decide +kernel
theorem dX12_look_23 : decode cX12_look 23 = .ok (.lreturn, 1) := by decide +kernel
theorem dX12_look_24 : decode cX12_look 24 = .ok (.aload_n 0, 1) := by decide +kernel
theorem dX12_look_25 : decode cX12_look 25 = .ok (.iload_n 1, 1) := by decide +kernel
theorem dX12_look_26 : decode cX12_look 26 = .ok (.iload_n 2, 1) := by decide +kernel
theorem dX12_look_27 : decode cX12_look 27 = .ok (.iconst 1, 1) := by decide +kernel
theorem dX12_look_28 : decode cX12_look 28 = .ok (.invokevirtual 312, 3) := by decide +kernel
theorem dX12_look_31 : decode cX12_look 31 = .ok (.ifCond .ne 7, 3) := by decide +kernel
theorem dX12_look_34 : decode cX12_look 34 = .ok (.ldc2_w 323, 3) := by decide +kernel
theorem dX12_look_37 : decode cX12_look 37 = .ok (.lreturn, 1) := by decide +kernel
theorem dX12_look_38 : decode cX12_look 38 = .ok (.aload_n 0, 1) := by decide +kernel
theorem dX12_look_39 : decode cX12_look 39 = .ok (.getfield 102, 3) := by decide +kernel
theorem dX12_look_42 : decode cX12_look 42 = .ok (.bipush 24, 2) := by decide +kernel
theorem dX12_look_44 : decode cX12_look 44 = .ok (.iload_n 1, 1) := by decide +kernel
theorem dX12_look_45 : decode cX12_look 45 = .ok (.imul, 1) := by decide +kernel
theorem dX12_look_46 : decode cX12_look 46 = .ok (.iload_n 2, 1) := by decide +kernel
theorem dX12_look_47 : decode cX12_look 47 = .ok (.iadd, 1) := by decide +kernel
theorem dX12_look_48 : decode cX12_look 48 = .ok (.laload, 1) := by decide +kernel
theorem dX12_look_49 : decode cX12_look 49 = .ok (.lstore_n 3, 1) := by decide +kernel
theorem dX12_look_50 : decode cX12_look 50 = .ok (.lload_n 3, 1) := by decide +kernel
theorem dX12_look_51 : decode cX12_look 51 = .ok (.lconst 0, 1) := by decide +kernel
theorem dX12_look_52 : decode cX12_look 52 = .ok (.lcmp, 1) := by decide +kernel
theorem dX12_look_53 : decode cX12_look 53 = .ok (.ifCond .ge 18, 3) := by decide +kernel
theorem dX12_look_56 : decode cX12_look 56 = .ok (.lload_n 3, 1) := by decide +kernel
theorem dX12_look_57 : decode cX12_look 57 = .ok (.lconst 1, 1) := by decide +kernel
theorem dX12_look_58 : decode cX12_look 58 = .ok (.ladd, 1) := by decide +kernel
theorem dX12_look_59 : decode cX12_look 59 = .ok (.lneg, 1) := by decide +kernel
theorem dX12_look_60 : decode cX12_look 60 = .ok (.ldc2_w 325, 3) := by decide +kernel
theorem dX12_look_63 : decode cX12_look 63 = .ok (.lrem, 1) := by decide +kernel
theorem dX12_look_64 : decode cX12_look 64 = .ok (.ldc2_w 327, 3) := by decide +kernel
theorem dX12_look_67 : decode cX12_look 67 = .ok (.ladd, 1) := by decide +kernel
theorem dX12_look_68 : decode cX12_look 68 = .ok (.goto 24, 3) := by decide +kernel
theorem dX12_look_71 : decode cX12_look 71 = .ok (.lload_n 3, 1) := by decide +kernel
theorem dX12_look_72 : decode cX12_look 72 = .ok (.ldc2_w 329, 3) := by decide +kernel
theorem dX12_look_75 : decode cX12_look 75 = .ok (.lcmp, 1) := by decide +kernel
theorem dX12_look_76 : decode cX12_look 76 = .ok (.ifCond .le 15, 3) := by decide +kernel
theorem dX12_look_79 : decode cX12_look 79 = .ok (.lload_n 3, 1) := by decide +kernel
theorem dX12_look_80 : decode cX12_look 80 = .ok (.ldc2_w 325, 3) := by decide +kernel
theorem dX12_look_83 : decode cX12_look 83 = .ok (.lrem, 1) := by decide +kernel
theorem dX12_look_84 : decode cX12_look 84 = .ok (.ldc2_w 331, 3) := by decide +kernel
theorem dX12_look_87 : decode cX12_look 87 = .ok (.ladd, 1) := by decide +kernel
theorem dX12_look_88 : decode cX12_look 88 = .ok (.goto 4, 3) := by decide +kernel
theorem dX12_look_91 : decode cX12_look 91 = .ok (.lload_n 3, 1) := by decide +kernel
theorem dX12_look_92 : decode cX12_look 92 = .ok (.lreturn, 1) := by decide +kernel
set_option maxRecDepth 20000 in
theorem ggX12_copy_X12_isRack : GoodIn wsX12_copy wsX12_isRack := goodIn_r _ [8, 9, 10, 11, 7, 12] rfl (by decide +kernel)
set_option maxRecDepth 20000 in
theorem gX12_copy_X12_isRack : GoodIn wsX12_copy (va_wsS RX12 306 yX12_isRack wsX12_isRack) := goodIn_app (goodIn_of _ (by decide +kernel)) ggX12_copy_X12_isRack
set_option maxRecDepth 20000 in
theorem ggX12_copy_X12_isSpan : GoodIn wsX12_copy wsX12_isSpan := goodIn_r _ [16, 1, 17, 18, 19, 20, 21, 22, 23, 24, 25, 26, 27, 28, 29, 30, 31, 32, 33, 34, 35, 36, 37, 38, 39, 40, 41, 42, 43, 44, 45, 46, 47, 48, 49, 50, 51, 52, 53, 54, 55, 56, 57, 58, 59, 60, 61] rfl (by decide +kernel)
set_option maxRecDepth 20000 in
theorem gX12_copy_X12_isSpan : GoodIn wsX12_copy (wsV RX12 312 RX12 yX12_isSpan wsX12_isSpan) := goodIn_app (goodIn_of _ (by decide +kernel)) ggX12_copy_X12_isSpan
theorem dX12_copy_0 : decode cX12_copy 0 = .ok (.iload_n 1, 1) := by decide +kernel
theorem dX12_copy_1 : decode cX12_copy 1 = .ok (.invokestatic 306, 3) := by decide +kernel
theorem dX12_copy_4 : decode cX12_copy 4 = .ok (.ifCond .eq 10, 3) := by decide +kernel
theorem dX12_copy_7 : decode cX12_copy 7 = .ok (.iload_n 3, 1) := by decide +kernel
theorem dX12_copy_8 : decode cX12_copy 8 = .ok (.invokestatic 306, 3) := by decide +kernel
theorem dX12_copy_11 : decode cX12_copy 11 = .ok (.ifCond .ne 6, 3) := by decide +kernel
theorem dX12_copy_14 : decode cX12_copy 14 = .ok (.bipush (-2), 2) := by decide +kernel
theorem dX12_copy_16 : decode cX12_copy 16 = .ok (.ireturn, 1) := by decide +kernel
theorem dX12_copy_17 : decode cX12_copy 17 = .ok (.aload_n 0, 1) := by decide +kernel
theorem dX12_copy_18 : decode cX12_copy 18 = .ok (.getfield 99, 3) := by decide +kernel
theorem dX12_copy_21 : decode cX12_copy 21 = .ok (.iload_n 1, 1) := by decide +kernel
theorem dX12_copy_22 : decode cX12_copy 22 = .ok (.iaload, 1) := by decide +kernel
theorem dX12_copy_23 : decode cX12_copy 23 = .ok (.ifCond .lt 12, 3) := by decide +kernel
theorem dX12_copy_26 : decode cX12_copy 26 = .ok (.aload_n 0, 1) := by decide +kernel
theorem dX12_copy_27 : decode cX12_copy 27 = .ok (.getfield 99, 3) := by decide +kernel
theorem dX12_copy_30 : decode cX12_copy 30 = .ok (.iload_n 3, 1) := by decide +kernel
theorem dX12_copy_31 : decode cX12_copy 31 = .ok (.iaload, 1) := by decide +kernel
theorem dX12_copy_32 : decode cX12_copy 32 = .ok (.ifCond .ge 6, 3) := by decide +kernel
theorem dX12_copy_35 : decode cX12_copy 35 = .ok (.bipush (-11), 2) := by decide +kernel
theorem dX12_copy_37 : decode cX12_copy 37 = .ok (.ireturn, 1) := by decide +kernel
theorem dX12_copy_38 : decode cX12_copy 38 = .ok (.aload_n 0, 1) := by decide +kernel
theorem dX12_copy_39 : decode cX12_copy 39 = .ok (.getfield 96, 3) := by decide +kernel
theorem dX12_copy_42 : decode cX12_copy 42 = .ok (.iload_n 1, 1) := by decide +kernel
theorem dX12_copy_43 : decode cX12_copy 43 = .ok (.iaload, 1) := by decide +kernel
theorem dX12_copy_44 : decode cX12_copy 44 = .ok (.aload_n 0, 1) := by decide +kernel
theorem dX12_copy_45 : decode cX12_copy 45 = .ok (.getfield 96, 3) := by decide +kernel
theorem dX12_copy_48 : decode cX12_copy 48 = .ok (.iload_n 3, 1) := by decide +kernel
theorem dX12_copy_49 : decode cX12_copy 49 = .ok (.iaload, 1) := by decide +kernel
theorem dX12_copy_50 : decode cX12_copy 50 = .ok (.if_icmp .eq 6, 3) := by decide +kernel
theorem dX12_copy_53 : decode cX12_copy 53 = .ok (.bipush (-15), 2) := by decide +kernel
theorem dX12_copy_55 : decode cX12_copy 55 = .ok (.ireturn, 1) := by decide +kernel
theorem dX12_copy_56 : decode cX12_copy 56 = .ok (.aload_n 0, 1) := by decide +kernel
theorem dX12_copy_57 : decode cX12_copy 57 = .ok (.iload_n 1, 1) := by decide +kernel
theorem dX12_copy_58 : decode cX12_copy 58 = .ok (.iload_n 2, 1) := by decide +kernel
theorem dX12_copy_59 : decode cX12_copy 59 = .ok (.iload 5, 2) := by decide +kernel
theorem dX12_copy_61 : decode cX12_copy 61 = .ok (.invokevirtual 312, 3) := by decide +kernel
theorem dX12_copy_64 : decode cX12_copy 64 = .ok (.ifCond .eq 15, 3) := by decide +kernel
theorem dX12_copy_67 : decode cX12_copy 67 = .ok (.aload_n 0, 1) := by decide +kernel
theorem dX12_copy_68 : decode cX12_copy 68 = .ok (.iload_n 3, 1) := by decide +kernel
theorem dX12_copy_69 : decode cX12_copy 69 = .ok (.iload 4, 2) := by decide +kernel
theorem dX12_copy_71 : decode cX12_copy 71 = .ok (.iload 5, 2) := by decide +kernel
theorem dX12_copy_73 : decode cX12_copy 73 = .ok (.invokevirtual 312, 3) := by decide +kernel
theorem dX12_copy_76 : decode cX12_copy 76 = .ok (.ifCond .ne 6, 3) := by decide +kernel
theorem dX12_copy_79 : decode cX12_copy 79 = .ok (.bipush (-13), 2) := by decide +kernel
theorem dX12_copy_81 : decode cX12_copy 81 = .ok (.ireturn, 1) := by decide +kernel
theorem dX12_copy_82 : decode cX12_copy 82 = .ok (.iconst 0, 1) := by decide +kernel
theorem dX12_copy_83 : decode cX12_copy 83 = .ok (.istore 6, 2) := by decide +kernel
theorem dX12_copy_85 : decode cX12_copy 85 = .ok (.iload 6, 2) := by decide +kernel
theorem dX12_copy_87 : decode cX12_copy 87 = .ok (.iload 5, 2) := by decide +kernel
theorem dX12_copy_89 : decode cX12_copy 89 = .ok (.if_icmp .ge 30, 3) := by decide +kernel
theorem dX12_copy_92 : decode cX12_copy 92 = .ok (.aload_n 0, 1) := by decide +kernel
theorem dX12_copy_93 : decode cX12_copy 93 = .ok (.getfield 106, 3) := by decide +kernel
theorem dX12_copy_96 : decode cX12_copy 96 = .ok (.iload 6, 2) := by decide +kernel
theorem dX12_copy_98 : decode cX12_copy 98 = .ok (.aload_n 0, 1) := by decide +kernel
theorem dX12_copy_99 : decode cX12_copy 99 = .ok (.getfield 102, 3) := by decide +kernel
theorem dX12_copy_102 : decode cX12_copy 102 = .ok (.bipush 24, 2) := by decide +kernel
theorem dX12_copy_104 : decode cX12_copy 104 = .ok (.iload_n 1, 1) := by decide +kernel
theorem dX12_copy_105 : decode cX12_copy 105 = .ok (.imul, 1) := by decide +kernel
theorem dX12_copy_106 : decode cX12_copy 106 = .ok (.iload_n 2, 1) := by decide +kernel
theorem dX12_copy_107 : decode cX12_copy 107 = .ok (.iadd, 1) := by decide +kernel
theorem dX12_copy_108 : decode cX12_copy 108 = .ok (.iload 6, 2) := by decide +kernel
theorem dX12_copy_110 : decode cX12_copy 110 = .ok (.iadd, 1) := by decide +kernel
theorem dX12_copy_111 : decode cX12_copy 111 = .ok (.laload, 1) := by decide +kernel
theorem dX12_copy_112 : decode cX12_copy 112 = .ok (.lastore, 1) := by decide +kernel
theorem dX12_copy_113 : decode cX12_copy 113 = .ok (.iinc 6 1, 3) := by decide +kernel
theorem dX12_copy_116 : decode cX12_copy 116 = .ok (.goto (-31), 3) := by decide +kernel
theorem dX12_copy_119 : decode cX12_copy 119 = .ok (.iconst 0, 1) := by decide +kernel
theorem dX12_copy_120 : decode cX12_copy 120 = .ok (.istore 6, 2) := by decide +kernel
theorem dX12_copy_122 : decode cX12_copy 122 = .ok (.iload 6, 2) := by decide +kernel
theorem dX12_copy_124 : decode cX12_copy 124 = .ok (.iload 5, 2) := by decide +kernel
theorem dX12_copy_126 : decode cX12_copy 126 = .ok (.if_icmp .ge 31, 3) := by decide +kernel
theorem dX12_copy_129 : decode cX12_copy 129 = .ok (.aload_n 0, 1) := by decide +kernel
theorem dX12_copy_130 : decode cX12_copy 130 = .ok (.getfield 102, 3) := by decide +kernel
theorem dX12_copy_133 : decode cX12_copy 133 = .ok (.bipush 24, 2) := by decide +kernel
theorem dX12_copy_135 : decode cX12_copy 135 = .ok (.iload_n 3, 1) := by decide +kernel
theorem dX12_copy_136 : decode cX12_copy 136 = .ok (.imul, 1) := by decide +kernel
theorem dX12_copy_137 : decode cX12_copy 137 = .ok (.iload 4, 2) := by decide +kernel
theorem dX12_copy_139 : decode cX12_copy 139 = .ok (.iadd, 1) := by decide +kernel
theorem dX12_copy_140 : decode cX12_copy 140 = .ok (.iload 6, 2) := by decide +kernel
theorem dX12_copy_142 : decode cX12_copy 142 = .ok (.iadd, 1) := by decide +kernel
theorem dX12_copy_143 : decode cX12_copy 143 = .ok (.aload_n 0, 1) := by decide +kernel
theorem dX12_copy_144 : decode cX12_copy 144 = .ok (.getfield 106, 3) := by decide +kernel
theorem dX12_copy_147 : decode cX12_copy 147 = .ok (.iload 6, 2) := by decide +kernel
theorem dX12_copy_149 : decode cX12_copy 149 = .ok (.laload, 1) := by decide +kernel
theorem dX12_copy_150 : decode cX12_copy 150 = .ok (.lastore, 1) := by decide +kernel
theorem dX12_copy_151 : decode cX12_copy 151 = .ok (.iinc 6 1, 3) := by decide +kernel
theorem dX12_copy_154 : decode cX12_copy 154 = .ok (.goto (-32), 3) := by decide +kernel
theorem dX12_copy_157 : decode cX12_copy 157 = .ok (.iload 5, 2) := by decide +kernel
theorem dX12_copy_159 : decode cX12_copy 159 = .ok (.ireturn, 1) := by decide +kernel
set_option maxRecDepth 20000 in
theorem ggX12_drop_X12_isRack : GoodIn wsX12_drop wsX12_isRack := goodIn_r _ [5, 6, 7, 8, 4, 9] rfl (by decide +kernel)
set_option maxRecDepth 20000 in
theorem gX12_drop_X12_isRack : GoodIn wsX12_drop (va_wsS RX12 306 yX12_isRack wsX12_isRack) := goodIn_app (goodIn_of _ (by decide +kernel)) ggX12_drop_X12_isRack
theorem dX12_drop_0 : decode cX12_drop 0 = .ok (.iload_n 1, 1) := by decide +kernel
theorem dX12_drop_1 : decode cX12_drop 1 = .ok (.invokestatic 306, 3) := by decide +kernel
theorem dX12_drop_4 : decode cX12_drop 4 = .ok (.ifCond .ne 6, 3) := by decide +kernel
theorem dX12_drop_7 : decode cX12_drop 7 = .ok (.bipush (-2), 2) := by decide +kernel
theorem dX12_drop_9 : decode cX12_drop 9 = .ok (.ireturn, 1) := by decide +kernel
theorem dX12_drop_10 : decode cX12_drop 10 = .ok (.aload_n 0, 1) := by decide +kernel
theorem dX12_drop_11 : decode cX12_drop 11 = .ok (.getfield 99, 3) := by decide +kernel
theorem dX12_drop_14 : decode cX12_drop 14 = .ok (.iload_n 1, 1) := by decide +kernel
theorem dX12_drop_15 : decode cX12_drop 15 = .ok (.iaload, 1) := by decide +kernel
theorem dX12_drop_16 : decode cX12_drop 16 = .ok (.ifCond .ge 6, 3) := by decide +kernel
theorem dX12_drop_19 : decode cX12_drop 19 = .ok (.bipush (-11), 2) := by decide +kernel
theorem dX12_drop_21 : decode cX12_drop 21 = .ok (.ireturn, 1) := by decide +kernel
theorem dX12_drop_22 : decode cX12_drop 22 = .ok (.aload_n 0, 1) := by decide +kernel
theorem dX12_drop_23 : decode cX12_drop 23 = .ok (.getfield 99, 3) := by decide +kernel
theorem dX12_drop_26 : decode cX12_drop 26 = .ok (.iload_n 1, 1) := by decide +kernel
theorem dX12_drop_27 : decode cX12_drop 27 = .ok (.iaload, 1) := by decide +kernel
theorem dX12_drop_28 : decode cX12_drop 28 = .ok (.istore_n 2, 1) := by decide +kernel
theorem dX12_drop_29 : decode cX12_drop 29 = .ok (.aload_n 0, 1) := by decide +kernel
theorem dX12_drop_30 : decode cX12_drop 30 = .ok (.getfield 99, 3) := by decide +kernel
theorem dX12_drop_33 : decode cX12_drop 33 = .ok (.iload_n 1, 1) := by decide +kernel
theorem dX12_drop_34 : decode cX12_drop 34 = .ok (.iconst (-1), 1) := by decide +kernel
theorem dX12_drop_35 : decode cX12_drop 35 = .ok (.iastore, 1) := by decide +kernel
theorem dX12_drop_36 : decode cX12_drop 36 = .ok (.iload_n 2, 1) := by decide +kernel
theorem dX12_drop_37 : decode cX12_drop 37 = .ok (.ireturn, 1) := by decide +kernel
set_option maxRecDepth 20000 in
theorem ggX12_share_X12_isRack : GoodIn wsX12_share wsX12_isRack := goodIn_r _ [10, 11, 12, 13, 9, 14] rfl (by decide +kernel)
set_option maxRecDepth 20000 in
theorem gX12_share_X12_isRack : GoodIn wsX12_share (va_wsS RX12 306 yX12_isRack wsX12_isRack) := goodIn_app (goodIn_of _ (by decide +kernel)) ggX12_share_X12_isRack
set_option maxRecDepth 20000 in
theorem ggX12_share_X12_in : GoodIn wsX12_share wsX12_in := goodIn_r _ [14] rfl (by decide +kernel)
set_option maxRecDepth 20000 in
theorem gX12_share_X12_in : GoodIn wsX12_share (va_wsS RX12 111 yX12_in wsX12_in) := goodIn_app (goodIn_of _ (by decide +kernel)) ggX12_share_X12_in
set_option maxRecDepth 20000 in
theorem ggX12_share_X12_noRack : GoodIn wsX12_share wsX12_noRack := goodIn_r _ [18, 3, 19, 20, 21, 22, 23, 24, 25, 26, 27, 28, 29, 30, 31, 32, 33, 34, 35, 36, 37, 38, 39, 40, 41, 42, 43, 44, 45, 46, 47, 48, 49, 50, 51, 52, 53, 54, 55, 56, 57, 58, 59, 60, 61, 62, 63, 64] rfl (by decide +kernel)
set_option maxRecDepth 20000 in
theorem gX12_share_X12_noRack : GoodIn wsX12_share (wsV RX12 309 RX12 yX12_noRack wsX12_noRack) := goodIn_app (goodIn_of _ (by decide +kernel)) ggX12_share_X12_noRack
theorem dX12_share_0 : decode cX12_share 0 = .ok (.iload_n 1, 1) := by decide +kernel
theorem dX12_share_1 : decode cX12_share 1 = .ok (.invokestatic 306, 3) := by decide +kernel
theorem dX12_share_4 : decode cX12_share 4 = .ok (.ifCond .ne 7, 3) := by decide +kernel
theorem dX12_share_7 : decode cX12_share 7 = .ok (.ldc2_w 319, 3) := by decide +kernel
theorem dX12_share_10 : decode cX12_share 10 = .ok (.lreturn, 1) := by decide +kernel
theorem dX12_share_11 : decode cX12_share 11 = .ok (.iload_n 2, 1) := by decide +kernel
theorem dX12_share_12 : decode cX12_share 12 = .ok (.i2l, 1) := by decide +kernel
theorem dX12_share_13 : decode cX12_share 13 = .ok (.lconst 0, 1) := by decide +kernel
theorem dX12_share_14 : decode cX12_share 14 = .ok (.lconst 1, 1) := by decide +kernel
theorem dX12_share_15 : decode cX12_share 15 = .ok (.invokestatic 111, 3) := by decide +kernel
theorem dX12_share_18 : decode cX12_share 18 = .ok (.ifCond .ne 7, 3) := by decide +kernel
theorem dX12_share_21 : decode cX12_share 21 = .ok (.ldc2_w 333, 3) := by decide +kernel
theorem dX12_share_24 : decode cX12_share 24 = .ok (.lreturn, 1) := by decide +kernel
theorem dX12_share_25 : decode cX12_share 25 = .ok (.aload_n 0, 1) := by decide +kernel
theorem dX12_share_26 : decode cX12_share 26 = .ok (.iload_n 1, 1) := by decide +kernel
theorem dX12_share_27 : decode cX12_share 27 = .ok (.iconst 2, 1) := by decide +kernel
theorem dX12_share_28 : decode cX12_share 28 = .ok (.invokevirtual 309, 3) := by decide +kernel
theorem dX12_share_31 : decode cX12_share 31 = .ok (.istore_n 3, 1) := by decide +kernel
theorem dX12_share_32 : decode cX12_share 32 = .ok (.iload_n 3, 1) := by decide +kernel
theorem dX12_share_33 : decode cX12_share 33 = .ok (.ifCond .eq 6, 3) := by decide +kernel
theorem dX12_share_36 : decode cX12_share 36 = .ok (.iload_n 3, 1) := by decide +kernel
theorem dX12_share_37 : decode cX12_share 37 = .ok (.i2l, 1) := by decide +kernel
theorem dX12_share_38 : decode cX12_share 38 = .ok (.lreturn, 1) := by decide +kernel
theorem dX12_share_39 : decode cX12_share 39 = .ok (.aload_n 0, 1) := by decide +kernel
theorem dX12_share_40 : decode cX12_share 40 = .ok (.getfield 99, 3) := by decide +kernel
theorem dX12_share_43 : decode cX12_share 43 = .ok (.iload_n 1, 1) := by decide +kernel
theorem dX12_share_44 : decode cX12_share 44 = .ok (.iaload, 1) := by decide +kernel
theorem dX12_share_45 : decode cX12_share 45 = .ok (.ifCond .ne 7, 3) := by decide +kernel
theorem dX12_share_48 : decode cX12_share 48 = .ok (.ldc2_w 335, 3) := by decide +kernel
theorem dX12_share_51 : decode cX12_share 51 = .ok (.lreturn, 1) := by decide +kernel
theorem dX12_share_52 : decode cX12_share 52 = .ok (.lconst 0, 1) := by decide +kernel
theorem dX12_share_53 : decode cX12_share 53 = .ok (.lstore 4, 2) := by decide +kernel
theorem dX12_share_55 : decode cX12_share 55 = .ok (.iconst 0, 1) := by decide +kernel
theorem dX12_share_56 : decode cX12_share 56 = .ok (.istore 6, 2) := by decide +kernel
theorem dX12_share_58 : decode cX12_share 58 = .ok (.iload 6, 2) := by decide +kernel
theorem dX12_share_60 : decode cX12_share 60 = .ok (.aload_n 0, 1) := by decide +kernel
theorem dX12_share_61 : decode cX12_share 61 = .ok (.getfield 99, 3) := by decide +kernel
theorem dX12_share_64 : decode cX12_share 64 = .ok (.iload_n 1, 1) := by decide +kernel
theorem dX12_share_65 : decode cX12_share 65 = .ok (.iaload, 1) := by decide +kernel
theorem dX12_share_66 : decode cX12_share 66 = .ok (.if_icmp .ge 26, 3) := by decide +kernel
theorem dX12_share_69 : decode cX12_share 69 = .ok (.lload 4, 2) := by decide +kernel
theorem dX12_share_71 : decode cX12_share 71 = .ok (.aload_n 0, 1) := by decide +kernel
theorem dX12_share_72 : decode cX12_share 72 = .ok (.getfield 102, 3) := by decide +kernel
theorem dX12_share_75 : decode cX12_share 75 = .ok (.bipush 24, 2) := by decide +kernel
theorem dX12_share_77 : decode cX12_share 77 = .ok (.iload_n 1, 1) := by decide +kernel
theorem dX12_share_78 : decode cX12_share 78 = .ok (.imul, 1) := by decide +kernel
theorem dX12_share_79 : decode cX12_share 79 = .ok (.iload 6, 2) := by decide +kernel
theorem dX12_share_81 : decode cX12_share 81 = .ok (.iadd, 1) := by decide +kernel
theorem dX12_share_82 : decode cX12_share 82 = .ok (.laload, 1) := by decide +kernel
theorem dX12_share_83 : decode cX12_share 83 = .ok (.ladd, 1) := by decide +kernel
theorem dX12_share_84 : decode cX12_share 84 = .ok (.lstore 4, 2) := by decide +kernel
theorem dX12_share_86 : decode cX12_share 86 = .ok (.iinc 6 1, 3) := by decide +kernel
theorem dX12_share_89 : decode cX12_share 89 = .ok (.goto (-31), 3) := by decide +kernel
theorem dX12_share_92 : decode cX12_share 92 = .ok (.lload 4, 2) := by decide +kernel
theorem dX12_share_94 : decode cX12_share 94 = .ok (.lconst 0, 1) := by decide +kernel
theorem dX12_share_95 : decode cX12_share 95 = .ok (.lcmp, 1) := by decide +kernel
theorem dX12_share_96 : decode cX12_share 96 = .ok (.ifCond .ge 9, 3) := by decide +kernel
theorem dX12_share_99 : decode cX12_share 99 = .ok (.lload 4, 2) := by decide +kernel
theorem dX12_share_101 : decode cX12_share 101 = .ok (.lneg, 1) := by decide +kernel
theorem dX12_share_102 : decode cX12_share 102 = .ok (.goto 5, 3) := by decide +kernel
theorem dX12_share_105 : decode cX12_share 105 = .ok (.lload 4, 2) := by decide +kernel
theorem dX12_share_107 : decode cX12_share 107 = .ok (.lstore 6, 2) := by decide +kernel
theorem dX12_share_109 : decode cX12_share 109 = .ok (.aload_n 0, 1) := by decide +kernel
theorem dX12_share_110 : decode cX12_share 110 = .ok (.getfield 99, 3) := by decide +kernel
theorem dX12_share_113 : decode cX12_share 113 = .ok (.iload_n 1, 1) := by decide +kernel
theorem dX12_share_114 : decode cX12_share 114 = .ok (.iaload, 1) := by decide +kernel
theorem dX12_share_115 : decode cX12_share 115 = .ok (.i2l, 1) := by decide +kernel
theorem dX12_share_116 : decode cX12_share 116 = .ok (.lstore 8, 2) := by decide +kernel
theorem dX12_share_118 : decode cX12_share 118 = .ok (.lload 8, 2) := by decide +kernel
theorem dX12_share_120 : decode cX12_share 120 = .ok (.lconst 0, 1) := by decide +kernel
theorem dX12_share_121 : decode cX12_share 121 = .ok (.lcmp, 1) := by decide +kernel
theorem dX12_share_122 : decode cX12_share 122 = .ok (.ifCond .eq 21, 3) := by decide +kernel
theorem dX12_share_125 : decode cX12_share 125 = .ok (.lload 6, 2) := by decide +kernel
theorem dX12_share_127 : decode cX12_share 127 = .ok (.lload 8, 2) := by decide +kernel
theorem dX12_share_129 : decode cX12_share 129 = .ok (.lrem, 1) := by decide +kernel
theorem dX12_share_130 : decode cX12_share 130 = .ok (.lstore 10, 2) := by decide +kernel
theorem dX12_share_132 : decode cX12_share 132 = .ok (.lload 8, 2) := by decide +kernel
theorem dX12_share_134 : decode cX12_share 134 = .ok (.lstore 6, 2) := by decide +kernel
theorem dX12_share_136 : decode cX12_share 136 = .ok (.lload 10, 2) := by decide +kernel
theorem dX12_share_138 : decode cX12_share 138 = .ok (.lstore 8, 2) := by decide +kernel
theorem dX12_share_140 : decode cX12_share 140 = .ok (.goto (-22), 3) := by decide +kernel
theorem dX12_share_143 : decode cX12_share 143 = .ok (.iload_n 2, 1) := by decide +kernel
theorem dX12_share_144 : decode cX12_share 144 = .ok (.iconst 1, 1) := by decide +kernel
theorem dX12_share_145 : decode cX12_share 145 = .ok (.if_icmp .ne 16, 3) := by decide +kernel
theorem dX12_share_148 : decode cX12_share 148 = .ok (.aload_n 0, 1) := by decide +kernel
theorem dX12_share_149 : decode cX12_share 149 = .ok (.getfield 99, 3) := by decide +kernel
theorem dX12_share_152 : decode cX12_share 152 = .ok (.iload_n 1, 1) := by decide +kernel
theorem dX12_share_153 : decode cX12_share 153 = .ok (.iaload, 1) := by decide +kernel
theorem dX12_share_154 : decode cX12_share 154 = .ok (.i2l, 1) := by decide +kernel
theorem dX12_share_155 : decode cX12_share 155 = .ok (.lload 6, 2) := by decide +kernel
theorem dX12_share_157 : decode cX12_share 157 = .ok (.ldiv, 1) := by decide +kernel
theorem dX12_share_158 : decode cX12_share 158 = .ok (.goto 12, 3) := by decide +kernel
theorem dX12_share_161 : decode cX12_share 161 = .ok (.lload 4, 2) := by decide +kernel
theorem dX12_share_163 : decode cX12_share 163 = .ok (.lload 6, 2) := by decide +kernel
theorem dX12_share_165 : decode cX12_share 165 = .ok (.ldiv, 1) := by decide +kernel
theorem dX12_share_166 : decode cX12_share 166 = .ok (.ldc2_w 337, 3) := by decide +kernel
theorem dX12_share_169 : decode cX12_share 169 = .ok (.ladd, 1) := by decide +kernel
theorem dX12_share_170 : decode cX12_share 170 = .ok (.lreturn, 1) := by decide +kernel
set_option maxRecDepth 20000 in
theorem ggX12_film_X12_isKey : GoodIn wsX12_film wsX12_isKey := goodIn_r _ [7, 8, 9, 10, 6, 11, 63, 64, 65, 66, 67, 68, 69, 70, 71, 72, 73, 74, 75, 76, 77, 78, 79, 80, 81, 82, 83, 84, 85, 86, 87, 88, 89, 90, 91, 92, 93, 94, 95, 96, 97, 98, 99, 100, 101, 102, 103, 104, 105, 106, 107] rfl (by decide +kernel)
set_option maxRecDepth 20000 in
theorem gX12_film_X12_isKey : GoodIn wsX12_film (wsV RX12 237 RX12 yX12_isKey wsX12_isKey) := goodIn_app (goodIn_of _ (by decide +kernel)) ggX12_film_X12_isKey
set_option maxRecDepth 20000 in
theorem ggX12_film_X12_isRack : GoodIn wsX12_film wsX12_isRack := goodIn_r _ [14, 15, 9, 10, 6, 11] rfl (by decide +kernel)
set_option maxRecDepth 20000 in
theorem gX12_film_X12_isRack : GoodIn wsX12_film (va_wsS RX12 306 yX12_isRack wsX12_isRack) := goodIn_app (goodIn_of _ (by decide +kernel)) ggX12_film_X12_isRack
set_option maxRecDepth 20000 in
theorem ggX12_film_X12_noRack : GoodIn wsX12_film wsX12_noRack := goodIn_r _ [19, 20, 21, 63, 64, 65, 66, 67, 68, 69, 70, 71, 72, 73, 74, 75, 76, 77, 78, 79, 80, 81, 82, 83, 84, 85, 86, 87, 88, 89, 90, 91, 92, 93, 94, 95, 96, 97, 98, 99, 100, 101, 102, 103, 104, 105, 106, 107] rfl (by decide +kernel)
set_option maxRecDepth 20000 in
theorem gX12_film_X12_noRack : GoodIn wsX12_film (wsV RX12 309 RX12 yX12_noRack wsX12_noRack) := goodIn_app (goodIn_of _ (by decide +kernel)) ggX12_film_X12_noRack
set_option maxRecDepth 20000 in
theorem ggX12_film_X12_isSpan : GoodIn wsX12_film wsX12_isSpan := goodIn_r _ [25, 20, 63, 64, 65, 66, 67, 68, 69, 70, 71, 72, 73, 74, 75, 76, 77, 78, 79, 80, 81, 82, 83, 84, 85, 86, 87, 88, 89, 90, 91, 92, 93, 94, 95, 96, 97, 98, 99, 100, 101, 102, 103, 104, 105, 106, 107] rfl (by decide +kernel)
set_option maxRecDepth 20000 in
theorem gX12_film_X12_isSpan : GoodIn wsX12_film (wsV RX12 312 RX12 yX12_isSpan wsX12_isSpan) := goodIn_app (goodIn_of _ (by decide +kernel)) ggX12_film_X12_isSpan
set_option maxRecDepth 20000 in
theorem ggX12_film_X12_belongings : GoodIn wsX12_film wsX12_belongings := goodIn_r _ [29, 1, 30, 31, 32, 6, 33, 34, 35, 36, 37, 38, 39, 40, 41, 42, 43, 44, 45, 46, 47, 48, 49, 50, 51, 52, 53, 54, 55, 56, 57, 58, 59, 60, 61, 62, 63, 64, 65, 66, 67, 68, 69, 70, 71, 72, 73, 74, 75, 76, 77, 78, 79, 80, 81, 82, 83, 84, 85, 86, 87, 88, 89, 90, 91, 92, 93, 94, 95, 96, 97, 98, 99, 100, 101, 102, 103, 104, 105, 106, 107] rfl (by decide +kernel)
set_option maxRecDepth 20000 in
theorem gX12_film_X12_belongings : GoodIn wsX12_film (wsV RX12 263 RX12 yX12_belongings wsX12_belongings) := goodIn_app (goodIn_of _ (by decide +kernel)) ggX12_film_X12_belongings
theorem dX12_film_0 : decode cX12_film 0 = .ok (.aload_n 0, 1) := by decide +kernel
theorem dX12_film_1 : decode cX12_film 1 = .ok (.iload_n 1, 1) := by decide +kernel
theorem dX12_film_2 : decode cX12_film 2 = .ok (.invokevirtual 237, 3) := by decide +kernel
theorem dX12_film_5 : decode cX12_film 5 = .ok (.ifCond .eq 10, 3) := by decide +kernel
theorem dX12_film_8 : decode cX12_film 8 = .ok (.iload_n 2, 1) := by decide +kernel
theorem dX12_film_9 : decode cX12_film 9 = .ok (.invokestatic 306, 3) := by decide +kernel
theorem dX12_film_12 : decode cX12_film 12 = .ok (.ifCond .ne 6, 3) := by decide +kernel
theorem dX12_film_15 : decode cX12_film 15 = .ok (.bipush (-2), 2) := by decide +kernel
theorem dX12_film_17 : decode cX12_film 17 = .ok (.ireturn, 1) := by decide +kernel
theorem dX12_film_18 : decode cX12_film 18 = .ok (.aload_n 0, 1) := by decide +kernel
theorem dX12_film_19 : decode cX12_film 19 = .ok (.iload_n 2, 1) := by decide +kernel
theorem dX12_film_20 : decode cX12_film 20 = .ok (.iconst 4, 1) := by decide +kernel
theorem dX12_film_21 : decode cX12_film 21 = .ok (.invokevirtual 309, 3) := by decide +kernel
theorem dX12_film_24 : decode cX12_film 24 = .ok (.istore 4, 2) := by decide +kernel
theorem dX12_film_26 : decode cX12_film 26 = .ok (.iload 4, 2) := by decide +kernel
theorem dX12_film_28 : decode cX12_film 28 = .ok (.ifCond .eq 6, 3) := by decide +kernel
theorem dX12_film_31 : decode cX12_film 31 = .ok (.iload 4, 2) := by decide +kernel
theorem dX12_film_33 : decode cX12_film 33 = .ok (.ireturn, 1) := by decide +kernel
theorem dX12_film_34 : decode cX12_film 34 = .ok (.aload_n 0, 1) := by decide +kernel
theorem dX12_film_35 : decode cX12_film 35 = .ok (.iload_n 2, 1) := by decide +kernel
theorem dX12_film_36 : decode cX12_film 36 = .ok (.iload_n 3, 1) := by decide +kernel
theorem dX12_film_37 : decode cX12_film 37 = .ok (.aload_n 0, 1) := by decide +kernel
theorem dX12_film_38 : decode cX12_film 38 = .ok (.getfield 145, 3) := by decide +kernel
theorem dX12_film_41 : decode cX12_film 41 = .ok (.invokevirtual 312, 3) := by decide +kernel
theorem dX12_film_44 : decode cX12_film 44 = .ok (.ifCond .ne 6, 3) := by decide +kernel
theorem dX12_film_47 : decode cX12_film 47 = .ok (.bipush (-13), 2) := by decide +kernel
theorem dX12_film_49 : decode cX12_film 49 = .ok (.ireturn, 1) := by decide +kernel
theorem dX12_film_50 : decode cX12_film 50 = .ok (.aload_n 0, 1) := by decide +kernel
theorem dX12_film_51 : decode cX12_film 51 = .ok (.iload_n 1, 1) := by decide +kernel
theorem dX12_film_52 : decode cX12_film 52 = .ok (.invokevirtual 263, 3) := by decide +kernel
theorem dX12_film_55 : decode cX12_film 55 = .ok (.istore 5, 2) := by decide +kernel
theorem dX12_film_57 : decode cX12_film 57 = .ok (.iconst 0, 1) := by decide +kernel
theorem dX12_film_58 : decode cX12_film 58 = .ok (.istore 6, 2) := by decide +kernel
theorem dX12_film_60 : decode cX12_film 60 = .ok (.iload 6, 2) := by decide +kernel
theorem dX12_film_62 : decode cX12_film 62 = .ok (.aload_n 0, 1) := by decide +kernel
theorem dX12_film_63 : decode cX12_film 63 = .ok (.getfield 145, 3) := by decide +kernel
theorem dX12_film_66 : decode cX12_film 66 = .ok (.if_icmp .ge 31, 3) := by decide +kernel
theorem dX12_film_69 : decode cX12_film 69 = .ok (.aload_n 0, 1) := by decide +kernel
theorem dX12_film_70 : decode cX12_film 70 = .ok (.getfield 102, 3) := by decide +kernel
theorem dX12_film_73 : decode cX12_film 73 = .ok (.bipush 24, 2) := by decide +kernel
theorem dX12_film_75 : decode cX12_film 75 = .ok (.iload_n 2, 1) := by decide +kernel
theorem dX12_film_76 : decode cX12_film 76 = .ok (.imul, 1) := by decide +kernel
theorem dX12_film_77 : decode cX12_film 77 = .ok (.iload_n 3, 1) := by decide +kernel
theorem dX12_film_78 : decode cX12_film 78 = .ok (.iadd, 1) := by decide +kernel
theorem dX12_film_79 : decode cX12_film 79 = .ok (.iload 6, 2) := by decide +kernel
theorem dX12_film_81 : decode cX12_film 81 = .ok (.iadd, 1) := by decide +kernel
theorem dX12_film_82 : decode cX12_film 82 = .ok (.iload 5, 2) := by decide +kernel
theorem dX12_film_84 : decode cX12_film 84 = .ok (.iload 6, 2) := by decide +kernel
theorem dX12_film_86 : decode cX12_film 86 = .ok (.ishr, 1) := by decide +kernel
theorem dX12_film_87 : decode cX12_film 87 = .ok (.iconst 1, 1) := by decide +kernel
theorem dX12_film_88 : decode cX12_film 88 = .ok (.iand, 1) := by decide +kernel
theorem dX12_film_89 : decode cX12_film 89 = .ok (.i2l, 1) := by decide +kernel
theorem dX12_film_90 : decode cX12_film 90 = .ok (.lastore, 1) := by decide +kernel
theorem dX12_film_91 : decode cX12_film 91 = .ok (.iinc 6 1, 3) := by decide +kernel
theorem dX12_film_94 : decode cX12_film 94 = .ok (.goto (-34), 3) := by decide +kernel
theorem dX12_film_97 : decode cX12_film 97 = .ok (.aload_n 0, 1) := by decide +kernel
theorem dX12_film_98 : decode cX12_film 98 = .ok (.getfield 145, 3) := by decide +kernel
theorem dX12_film_101 : decode cX12_film 101 = .ok (.ireturn, 1) := by decide +kernel
set_option maxRecDepth 20000 in
theorem ggX12_brokenOnes_X12_isBroken : GoodIn wsX12_brokenOnes wsX12_isBroken := goodIn_r _ [6, 7, 8, 9, 10, 11, 12, 13, 14, 15, 16, 17, 18, 19, 20, 21, 22, 23, 24, 25, 26, 27, 28, 29, 30, 31, 32, 33, 34, 35, 36, 37, 38, 39, 40, 41, 42, 43, 44, 45, 46, 47, 48, 49, 50, 51, 52] rfl (by decide +kernel)
set_option maxRecDepth 20000 in
theorem gX12_brokenOnes_X12_isBroken : GoodIn wsX12_brokenOnes (wsV RX12 240 RX12 yX12_isBroken wsX12_isBroken) := goodIn_app (goodIn_of _ (by decide +kernel)) ggX12_brokenOnes_X12_isBroken
theorem dX12_brokenOnes_0 : decode cX12_brokenOnes 0 = .ok (.iconst 0, 1) := by decide +kernel
theorem dX12_brokenOnes_1 : decode cX12_brokenOnes 1 = .ok (.istore_n 1, 1) := by decide +kernel
theorem dX12_brokenOnes_2 : decode cX12_brokenOnes 2 = .ok (.iconst 0, 1) := by decide +kernel
theorem dX12_brokenOnes_3 : decode cX12_brokenOnes 3 = .ok (.istore_n 2, 1) := by decide +kernel
theorem dX12_brokenOnes_4 : decode cX12_brokenOnes 4 = .ok (.iload_n 2, 1) := by decide +kernel
theorem dX12_brokenOnes_5 : decode cX12_brokenOnes 5 = .ok (.aload_n 0, 1) := by decide +kernel
theorem dX12_brokenOnes_6 : decode cX12_brokenOnes 6 = .ok (.getfield 142, 3) := by decide +kernel
theorem dX12_brokenOnes_9 : decode cX12_brokenOnes 9 = .ok (.if_icmp .ge 27, 3) := by decide +kernel
theorem dX12_brokenOnes_12 : decode cX12_brokenOnes 12 = .ok (.iload_n 1, 1) := by decide +kernel
theorem dX12_brokenOnes_13 : decode cX12_brokenOnes 13 = .ok (.aload_n 0, 1) := by decide +kernel
theorem dX12_brokenOnes_14 : decode cX12_brokenOnes 14 = .ok (.iload_n 2, 1) := by decide +kernel
theorem dX12_brokenOnes_15 : decode cX12_brokenOnes 15 = .ok (.invokevirtual 240, 3) := by decide +kernel
theorem dX12_brokenOnes_18 : decode cX12_brokenOnes 18 = .ok (.ifCond .eq 9, 3) := by decide +kernel
theorem dX12_brokenOnes_21 : decode cX12_brokenOnes 21 = .ok (.iconst 1, 1) := by decide +kernel
theorem dX12_brokenOnes_22 : decode cX12_brokenOnes 22 = .ok (.iload_n 2, 1) := by decide +kernel
theorem dX12_brokenOnes_23 : decode cX12_brokenOnes 23 = .ok (.ishl, 1) := by decide +kernel
theorem dX12_brokenOnes_24 : decode cX12_brokenOnes 24 = .ok (.goto 4, 3) := by decide +kernel
theorem dX12_brokenOnes_27 : decode cX12_brokenOnes 27 = .ok (.iconst 0, 1) := by decide +kernel
theorem dX12_brokenOnes_28 : decode cX12_brokenOnes 28 = .ok (.ior, 1) := by decide +kernel
theorem dX12_brokenOnes_29 : decode cX12_brokenOnes 29 = .ok (.istore_n 1, 1) := by decide +kernel
theorem dX12_brokenOnes_30 : decode cX12_brokenOnes 30 = .ok (.iinc 2 1, 3) := by decide +kernel
theorem dX12_brokenOnes_33 : decode cX12_brokenOnes 33 = .ok (.goto (-29), 3) := by decide +kernel
theorem dX12_brokenOnes_36 : decode cX12_brokenOnes 36 = .ok (.iload_n 1, 1) := by decide +kernel
theorem dX12_brokenOnes_37 : decode cX12_brokenOnes 37 = .ok (.ireturn, 1) := by decide +kernel
theorem dX12_latest_0 : decode cX12_latest 0 = .ok (.iconst 0, 1) := by decide +kernel
theorem dX12_latest_1 : decode cX12_latest 1 = .ok (.istore_n 1, 1) := by decide +kernel
theorem dX12_latest_2 : decode cX12_latest 2 = .ok (.iconst 0, 1) := by decide +kernel
theorem dX12_latest_3 : decode cX12_latest 3 = .ok (.istore_n 2, 1) := by decide +kernel
theorem dX12_latest_4 : decode cX12_latest 4 = .ok (.iload_n 2, 1) := by decide +kernel
theorem dX12_latest_5 : decode cX12_latest 5 = .ok (.aload_n 0, 1) := by decide +kernel
theorem dX12_latest_6 : decode cX12_latest 6 = .ok (.getfield 148, 3) := by decide +kernel
theorem dX12_latest_9 : decode cX12_latest 9 = .ok (.if_icmp .ge 36, 3) := by decide +kernel
theorem dX12_latest_12 : decode cX12_latest 12 = .ok (.aload_n 0, 1) := by decide +kernel
theorem dX12_latest_13 : decode cX12_latest 13 = .ok (.getfield 7, 3) := by decide +kernel
theorem dX12_latest_16 : decode cX12_latest 16 = .ok (.bipush 20, 2) := by decide +kernel
theorem dX12_latest_18 : decode cX12_latest 18 = .ok (.iload_n 2, 1) := by decide +kernel
theorem dX12_latest_19 : decode cX12_latest 19 = .ok (.iadd, 1) := by decide +kernel
theorem dX12_latest_20 : decode cX12_latest 20 = .ok (.iaload, 1) := by decide +kernel
theorem dX12_latest_21 : decode cX12_latest 21 = .ok (.iload_n 1, 1) := by decide +kernel
theorem dX12_latest_22 : decode cX12_latest 22 = .ok (.if_icmp .le 15, 3) := by decide +kernel
theorem dX12_latest_25 : decode cX12_latest 25 = .ok (.aload_n 0, 1) := by decide +kernel
theorem dX12_latest_26 : decode cX12_latest 26 = .ok (.getfield 7, 3) := by decide +kernel
theorem dX12_latest_29 : decode cX12_latest 29 = .ok (.bipush 20, 2) := by decide +kernel
theorem dX12_latest_31 : decode cX12_latest 31 = .ok (.iload_n 2, 1) := by decide +kernel
theorem dX12_latest_32 : decode cX12_latest 32 = .ok (.iadd, 1) := by decide +kernel
theorem dX12_latest_33 : decode cX12_latest 33 = .ok (.iaload, 1) := by decide +kernel
theorem dX12_latest_34 : decode cX12_latest 34 = .ok (.goto 4, 3) := by decide +kernel
theorem dX12_latest_37 : decode cX12_latest 37 = .ok (.iload_n 1, 1) := by decide +kernel
theorem dX12_latest_38 : decode cX12_latest 38 = .ok (.istore_n 1, 1) := by decide +kernel
theorem dX12_latest_39 : decode cX12_latest 39 = .ok (.iinc 2 1, 3) := by decide +kernel
theorem dX12_latest_42 : decode cX12_latest 42 = .ok (.goto (-38), 3) := by decide +kernel
theorem dX12_latest_45 : decode cX12_latest 45 = .ok (.iload_n 1, 1) := by decide +kernel
theorem dX12_latest_46 : decode cX12_latest 46 = .ok (.ireturn, 1) := by decide +kernel
theorem dX12_racks_0 : decode cX12_racks 0 = .ok (.iconst 0, 1) := by decide +kernel
theorem dX12_racks_1 : decode cX12_racks 1 = .ok (.istore_n 1, 1) := by decide +kernel
theorem dX12_racks_2 : decode cX12_racks 2 = .ok (.iconst 0, 1) := by decide +kernel
