theorem dX11_hang_33 : decode cX11_hang 33 = .ok (.bipush (-11), 2) := by decide +kernel
theorem dX11_hang_35 : decode cX11_hang 35 = .ok (.ireturn, 1) := by decide +kernel
theorem dX11_hang_36 : decode cX11_hang 36 = .ok (.aload 6, 2) := by decide +kernel
theorem dX11_hang_38 : decode cX11_hang 38 = .ok (.getfield 313, 3) := by decide +kernel
theorem dX11_hang_41 : decode cX11_hang 41 = .ok (.iload_n 2, 1) := by decide +kernel
theorem dX11_hang_42 : decode cX11_hang 42 = .ok (.if_icmp .eq 6, 3) := by decide +kernel
theorem dX11_hang_45 : decode cX11_hang 45 = .ok (.bipush (-12), 2) := by decide +kernel
theorem dX11_hang_47 : decode cX11_hang 47 = .ok (.ireturn, 1) := by decide +kernel
theorem dX11_hang_48 : decode cX11_hang 48 = .ok (.aload 6, 2) := by decide +kernel
theorem dX11_hang_50 : decode cX11_hang 50 = .ok (.iload_n 3, 1) := by decide +kernel
theorem dX11_hang_51 : decode cX11_hang 51 = .ok (.iconst 1, 1) := by decide +kernel
theorem dX11_hang_52 : decode cX11_hang 52 = .ok (.invokevirtual 316, 3) := by decide +kernel
theorem dX11_hang_55 : decode cX11_hang 55 = .ok (.ifCond .ne 6, 3) := by decide +kernel
theorem dX11_hang_58 : decode cX11_hang 58 = .ok (.bipush (-13), 2) := by decide +kernel
theorem dX11_hang_60 : decode cX11_hang 60 = .ok (.ireturn, 1) := by decide +kernel
theorem dX11_hang_61 : decode cX11_hang 61 = .ok (.aload 6, 2) := by decide +kernel
theorem dX11_hang_63 : decode cX11_hang 63 = .ok (.iload_n 3, 1) := by decide +kernel
theorem dX11_hang_64 : decode cX11_hang 64 = .ok (.lload 4, 2) := by decide +kernel
theorem dX11_hang_66 : decode cX11_hang 66 = .ok (.invokevirtual 319, 3) := by decide +kernel
theorem dX11_hang_69 : decode cX11_hang 69 = .ok (.iconst 1, 1) := by decide +kernel
theorem dX11_hang_70 : decode cX11_hang 70 = .ok (.ireturn, 1) := by decide +kernel
set_option maxRecDepth 20000 in
theorem ggX11_look_X11_rackAt : GoodIn wsX11_look wsX11_rackAt := goodIn_r _ [13, 14, 31, 32, 33, 34, 35, 36, 37, 38, 39, 40, 41, 42, 43, 44] rfl (by decide +kernel)
set_option maxRecDepth 20000 in
theorem gX11_look_X11_rackAt : GoodIn wsX11_look (wsV RX11 301 RX11 yX11_rackAt wsX11_rackAt) := goodIn_app (goodIn_of _ (by decide +kernel)) ggX11_look_X11_rackAt
set_option maxRecDepth 20000 in
theorem ggX11_look_X7_isMissing : GoodIn wsX11_look wsX7_isMissing := goodIn_r _ [19, 20, 45, 46, 47] rfl (by decide +kernel)
set_option maxRecDepth 20000 in
theorem gX11_look_X7_isMissing : GoodIn wsX11_look (wsV RX11 310 RX7 yX7_isMissing wsX7_isMissing) := goodIn_app (goodIn_of _ (by decide +kernel)) ggX11_look_X7_isMissing
set_option maxRecDepth 20000 in
theorem ggX11_look_X7_spans : GoodIn wsX11_look wsX7_spans := goodIn_r _ [24, 25, 45, 46, 47] rfl (by decide +kernel)
set_option maxRecDepth 20000 in
theorem gX11_look_X7_spans : GoodIn wsX11_look (wsV RX11 316 RX7 yX7_spans wsX7_spans) := goodIn_app (goodIn_of _ (by decide +kernel)) ggX11_look_X7_spans
set_option maxRecDepth 20000 in
theorem ggX11_look_X7_thingAt : GoodIn wsX11_look wsX7_thingAt := goodIn_r _ [29, 25, 30, 45, 46, 47] rfl (by decide +kernel)
set_option maxRecDepth 20000 in
theorem gX11_look_X7_thingAt : GoodIn wsX11_look (wsV RX11 329 RX7 yX7_thingAt wsX7_thingAt) := goodIn_app (goodIn_of _ (by decide +kernel)) ggX11_look_X7_thingAt
theorem dX11_look_0 : decode cX11_look 0 = .ok (.aload_n 0, 1) := by decide +kernel
theorem dX11_look_1 : decode cX11_look 1 = .ok (.iload_n 1, 1) := by decide +kernel
theorem dX11_look_2 : decode cX11_look 2 = .ok (.invokevirtual 301, 3) := by decide +kernel
theorem dX11_look_5 : decode cX11_look 5 = .ok (.astore_n 3, 1) := by decide +kernel
theorem dX11_look_6 : decode cX11_look 6 = .ok (.aload_n 3, 1) := by decide +kernel
theorem dX11_look_7 : decode cX11_look 7 = .ok (.ifnonnull 7, 3) := by decide +kernel
theorem dX11_look_10 : decode cX11_look 10 = .ok (.ldc2_w 323, 3) := by decide +kernel
theorem dX11_look_13 : decode cX11_look 13 = .ok (.lreturn, 1) := by decide +kernel
theorem dX11_look_14 : decode cX11_look 14 = .ok (.aload_n 3, 1) := by decide +kernel
theorem dX11_look_15 : decode cX11_look 15 = .ok (.invokevirtual 310, 3) := by decide +kernel
theorem dX11_look_18 : decode cX11_look 18 = .ok (.ifCond .eq 7, 3) := by decide +kernel
theorem dX11_look_21 : decode cX11_look 21 = .ok (.ldc2_w 325, 3) := by decide +kernel
theorem dX11_look_24 : decode cX11_look 24 = .ok (.lreturn, 1) := by decide +kernel
theorem dX11_look_25 : decode cX11_look 25 = .ok (.aload_n 3, 1) := by decide +kernel
theorem dX11_look_26 : decode cX11_look 26 = .ok (.iload_n 2, 1) := by decide +kernel
theorem dX11_look_27 : decode cX11_look 27 = .ok (.iconst 1, 1) := by decide +kernel
theorem dX11_look_28 : decode cX11_look 28 = .ok (.invokevirtual 316, 3) := by decide +kernel
theorem dX11_look_31 : decode cX11_look 31 = .ok (.ifCond .ne 7, 3) := by decide +kernel
theorem dX11_look_34 : decode cX11_look 34 = .ok (.ldc2_w 327, 3) := by decide +kernel
theorem dX11_look_37 : decode cX11_look 37 = .ok (.lreturn, 1) := by decide +kernel
theorem dX11_look_38 : decode cX11_look 38 = .ok (.aload_n 3, 1) := by decide +kernel
theorem dX11_look_39 : decode cX11_look 39 = .ok (.iload_n 2, 1) := by decide +kernel
theorem dX11_look_40 : decode cX11_look 40 = .ok (.invokevirtual 329, 3) := by decide +kernel
theorem dX11_look_43 : decode cX11_look 43 = .ok (.lstore 4, 2) := by decide +kernel
theorem dX11_look_45 : decode cX11_look 45 = .ok (.lload 4, 2) := by decide +kernel
theorem dX11_look_47 : decode cX11_look 47 = .ok (.lconst 0, 1) := by decide +kernel
theorem dX11_look_48 : decode cX11_look 48 = .ok (.lcmp, 1) := by decide +kernel
theorem dX11_look_49 : decode cX11_look 49 = .ok (.ifCond .ge 18, 3) := by decide +kernel
theorem dX11_look_52 : decode cX11_look 52 = .ok (.ldc2_w 333, 3) := by decide +kernel
theorem dX11_look_55 : decode cX11_look 55 = .ok (.lload 4, 2) := by decide +kernel
theorem dX11_look_57 : decode cX11_look 57 = .ok (.lsub, 1) := by decide +kernel
theorem dX11_look_58 : decode cX11_look 58 = .ok (.ldc2_w 335, 3) := by decide +kernel
theorem dX11_look_61 : decode cX11_look 61 = .ok (.lrem, 1) := by decide +kernel
theorem dX11_look_62 : decode cX11_look 62 = .ok (.ldc2_w 337, 3) := by decide +kernel
theorem dX11_look_65 : decode cX11_look 65 = .ok (.ladd, 1) := by decide +kernel
theorem dX11_look_66 : decode cX11_look 66 = .ok (.lreturn, 1) := by decide +kernel
theorem dX11_look_67 : decode cX11_look 67 = .ok (.lload 4, 2) := by decide +kernel
theorem dX11_look_69 : decode cX11_look 69 = .ok (.ldc2_w 339, 3) := by decide +kernel
theorem dX11_look_72 : decode cX11_look 72 = .ok (.lcmp, 1) := by decide +kernel
theorem dX11_look_73 : decode cX11_look 73 = .ok (.ifCond .gt 8, 3) := by decide +kernel
theorem dX11_look_76 : decode cX11_look 76 = .ok (.lload 4, 2) := by decide +kernel
theorem dX11_look_78 : decode cX11_look 78 = .ok (.goto 13, 3) := by decide +kernel
theorem dX11_look_81 : decode cX11_look 81 = .ok (.lload 4, 2) := by decide +kernel
theorem dX11_look_83 : decode cX11_look 83 = .ok (.ldc2_w 335, 3) := by decide +kernel
theorem dX11_look_86 : decode cX11_look 86 = .ok (.lrem, 1) := by decide +kernel
theorem dX11_look_87 : decode cX11_look 87 = .ok (.ldc2_w 341, 3) := by decide +kernel
theorem dX11_look_90 : decode cX11_look 90 = .ok (.ladd, 1) := by decide +kernel
theorem dX11_look_91 : decode cX11_look 91 = .ok (.lreturn, 1) := by decide +kernel
set_option maxRecDepth 20000 in
theorem ggX11_copy_X11_rackAt : GoodIn wsX11_copy wsX11_rackAt := goodIn_r _ [6, 7, 35, 36, 37, 38, 39, 40, 41, 42, 43, 44, 45, 46, 47, 48] rfl (by decide +kernel)
set_option maxRecDepth 20000 in
theorem gX11_copy_X11_rackAt : GoodIn wsX11_copy (wsV RX11 301 RX11 yX11_rackAt wsX11_rackAt) := goodIn_app (goodIn_of _ (by decide +kernel)) ggX11_copy_X11_rackAt
set_option maxRecDepth 20000 in
theorem ggX11_copy_X7_isMissing : GoodIn wsX11_copy wsX7_isMissing := goodIn_r _ [12, 13, 32, 33, 34] rfl (by decide +kernel)
set_option maxRecDepth 20000 in
theorem gX11_copy_X7_isMissing : GoodIn wsX11_copy (wsV RX11 310 RX7 yX7_isMissing wsX7_isMissing) := goodIn_app (goodIn_of _ (by decide +kernel)) ggX11_copy_X7_isMissing
set_option maxRecDepth 20000 in
theorem ggX11_copy_X7_spans : GoodIn wsX11_copy wsX7_spans := goodIn_r _ [17, 18, 32, 33, 34] rfl (by decide +kernel)
set_option maxRecDepth 20000 in
theorem gX11_copy_X7_spans : GoodIn wsX11_copy (wsV RX11 316 RX7 yX7_spans wsX7_spans) := goodIn_app (goodIn_of _ (by decide +kernel)) ggX11_copy_X7_spans
set_option maxRecDepth 20000 in
theorem ggX11_copy_X7_thingAt : GoodIn wsX11_copy wsX7_thingAt := goodIn_r _ [22, 18, 23, 32, 33, 34] rfl (by decide +kernel)
set_option maxRecDepth 20000 in
theorem gX11_copy_X7_thingAt : GoodIn wsX11_copy (wsV RX11 329 RX7 yX7_thingAt wsX7_thingAt) := goodIn_app (goodIn_of _ (by decide +kernel)) ggX11_copy_X7_thingAt
set_option maxRecDepth 20000 in
theorem ggX11_copy_X7_put : GoodIn wsX11_copy wsX7_put := goodIn_r _ [27, 18, 23, 28, 29, 30, 11, 31, 13, 32, 33, 34] rfl (by decide +kernel)
set_option maxRecDepth 20000 in
theorem gX11_copy_X7_put : GoodIn wsX11_copy (wsV RX11 319 RX7 yX7_put wsX7_put) := goodIn_app (goodIn_of _ (by decide +kernel)) ggX11_copy_X7_put
theorem dX11_copy_0 : decode cX11_copy 0 = .ok (.aload_n 0, 1) := by decide +kernel
theorem dX11_copy_1 : decode cX11_copy 1 = .ok (.iload_n 1, 1) := by decide +kernel
theorem dX11_copy_2 : decode cX11_copy 2 = .ok (.invokevirtual 301, 3) := by decide +kernel
theorem dX11_copy_5 : decode cX11_copy 5 = .ok (.astore 6, 2) := by decide +kernel
theorem dX11_copy_7 : decode cX11_copy 7 = .ok (.aload_n 0, 1) := by decide +kernel
theorem dX11_copy_8 : decode cX11_copy 8 = .ok (.iload_n 3, 1) := by decide +kernel
theorem dX11_copy_9 : decode cX11_copy 9 = .ok (.invokevirtual 301, 3) := by decide +kernel
theorem dX11_copy_12 : decode cX11_copy 12 = .ok (.astore 7, 2) := by decide +kernel
theorem dX11_copy_14 : decode cX11_copy 14 = .ok (.aload 6, 2) := by decide +kernel
theorem dX11_copy_16 : decode cX11_copy 16 = .ok (.ifnull 8, 3) := by decide +kernel
theorem dX11_copy_19 : decode cX11_copy 19 = .ok (.aload 7, 2) := by decide +kernel
theorem dX11_copy_21 : decode cX11_copy 21 = .ok (.ifnonnull 6, 3) := by decide +kernel
theorem dX11_copy_24 : decode cX11_copy 24 = .ok (.bipush (-2), 2) := by decide +kernel
theorem dX11_copy_26 : decode cX11_copy 26 = .ok (.ireturn, 1) := by decide +kernel
theorem dX11_copy_27 : decode cX11_copy 27 = .ok (.aload 6, 2) := by decide +kernel
theorem dX11_copy_29 : decode cX11_copy 29 = .ok (.invokevirtual 310, 3) := by decide +kernel
theorem dX11_copy_32 : decode cX11_copy 32 = .ok (.ifCond .ne 11, 3) := by decide +kernel
theorem dX11_copy_35 : decode cX11_copy 35 = .ok (.aload 7, 2) := by decide +kernel
theorem dX11_copy_37 : decode cX11_copy 37 = .ok (.invokevirtual 310, 3) := by decide +kernel
theorem dX11_copy_40 : decode cX11_copy 40 = .ok (.ifCond .eq 6, 3) := by decide +kernel
theorem dX11_copy_43 : decode cX11_copy 43 = .ok (.bipush (-11), 2) := by decide +kernel
theorem dX11_copy_45 : decode cX11_copy 45 = .ok (.ireturn, 1) := by decide +kernel
theorem dX11_copy_46 : decode cX11_copy 46 = .ok (.aload 6, 2) := by decide +kernel
theorem dX11_copy_48 : decode cX11_copy 48 = .ok (.getfield 313, 3) := by decide +kernel
theorem dX11_copy_51 : decode cX11_copy 51 = .ok (.aload 7, 2) := by decide +kernel
theorem dX11_copy_53 : decode cX11_copy 53 = .ok (.getfield 313, 3) := by decide +kernel
theorem dX11_copy_56 : decode cX11_copy 56 = .ok (.if_icmp .eq 6, 3) := by decide +kernel
theorem dX11_copy_59 : decode cX11_copy 59 = .ok (.bipush (-15), 2) := by decide +kernel
theorem dX11_copy_61 : decode cX11_copy 61 = .ok (.ireturn, 1) := by decide +kernel
theorem dX11_copy_62 : decode cX11_copy 62 = .ok (.aload 6, 2) := by decide +kernel
theorem dX11_copy_64 : decode cX11_copy 64 = .ok (.iload_n 2, 1) := by decide +kernel
theorem dX11_copy_65 : decode cX11_copy 65 = .ok (.iload 5, 2) := by decide +kernel
theorem dX11_copy_67 : decode cX11_copy 67 = .ok (.invokevirtual 316, 3) := by decide +kernel
theorem dX11_copy_70 : decode cX11_copy 70 = .ok (.ifCond .eq 15, 3) := by decide +kernel
theorem dX11_copy_73 : decode cX11_copy 73 = .ok (.aload 7, 2) := by decide +kernel
theorem dX11_copy_75 : decode cX11_copy 75 = .ok (.iload 4, 2) := by decide +kernel
theorem dX11_copy_77 : decode cX11_copy 77 = .ok (.iload 5, 2) := by decide +kernel
theorem dX11_copy_79 : decode cX11_copy 79 = .ok (.invokevirtual 316, 3) := by decide +kernel
theorem dX11_copy_82 : decode cX11_copy 82 = .ok (.ifCond .ne 6, 3) := by decide +kernel
theorem dX11_copy_85 : decode cX11_copy 85 = .ok (.bipush (-13), 2) := by decide +kernel
theorem dX11_copy_87 : decode cX11_copy 87 = .ok (.ireturn, 1) := by decide +kernel
theorem dX11_copy_88 : decode cX11_copy 88 = .ok (.iconst 0, 1) := by decide +kernel
theorem dX11_copy_89 : decode cX11_copy 89 = .ok (.istore 8, 2) := by decide +kernel
theorem dX11_copy_91 : decode cX11_copy 91 = .ok (.iload 8, 2) := by decide +kernel
theorem dX11_copy_93 : decode cX11_copy 93 = .ok (.iload 5, 2) := by decide +kernel
theorem dX11_copy_95 : decode cX11_copy 95 = .ok (.if_icmp .ge 48, 3) := by decide +kernel
theorem dX11_copy_98 : decode cX11_copy 98 = .ok (.iload_n 2, 1) := by decide +kernel
theorem dX11_copy_99 : decode cX11_copy 99 = .ok (.iload 4, 2) := by decide +kernel
theorem dX11_copy_101 : decode cX11_copy 101 = .ok (.if_icmp .ge 13, 3) := by decide +kernel
theorem dX11_copy_104 : decode cX11_copy 104 = .ok (.iload 5, 2) := by decide +kernel
theorem dX11_copy_106 : decode cX11_copy 106 = .ok (.iconst 1, 1) := by decide +kernel
theorem dX11_copy_107 : decode cX11_copy 107 = .ok (.isub, 1) := by decide +kernel
theorem dX11_copy_108 : decode cX11_copy 108 = .ok (.iload 8, 2) := by decide +kernel
theorem dX11_copy_110 : decode cX11_copy 110 = .ok (.isub, 1) := by decide +kernel
theorem dX11_copy_111 : decode cX11_copy 111 = .ok (.goto 5, 3) := by decide +kernel
theorem dX11_copy_114 : decode cX11_copy 114 = .ok (.iload 8, 2) := by decide +kernel
theorem dX11_copy_116 : decode cX11_copy 116 = .ok (.istore 9, 2) := by decide +kernel
theorem dX11_copy_118 : decode cX11_copy 118 = .ok (.aload 7, 2) := by decide +kernel
theorem dX11_copy_120 : decode cX11_copy 120 = .ok (.iload 4, 2) := by decide +kernel
theorem dX11_copy_122 : decode cX11_copy 122 = .ok (.iload 9, 2) := by decide +kernel
theorem dX11_copy_124 : decode cX11_copy 124 = .ok (.iadd, 1) := by decide +kernel
theorem dX11_copy_125 : decode cX11_copy 125 = .ok (.aload 6, 2) := by decide +kernel
theorem dX11_copy_127 : decode cX11_copy 127 = .ok (.iload_n 2, 1) := by decide +kernel
theorem dX11_copy_128 : decode cX11_copy 128 = .ok (.iload 9, 2) := by decide +kernel
theorem dX11_copy_130 : decode cX11_copy 130 = .ok (.iadd, 1) := by decide +kernel
theorem dX11_copy_131 : decode cX11_copy 131 = .ok (.invokevirtual 329, 3) := by decide +kernel
theorem dX11_copy_134 : decode cX11_copy 134 = .ok (.invokevirtual 319, 3) := by decide +kernel
theorem dX11_copy_137 : decode cX11_copy 137 = .ok (.iinc 8 1, 3) := by decide +kernel
theorem dX11_copy_140 : decode cX11_copy 140 = .ok (.goto (-49), 3) := by decide +kernel
theorem dX11_copy_143 : decode cX11_copy 143 = .ok (.iload 5, 2) := by decide +kernel
theorem dX11_copy_145 : decode cX11_copy 145 = .ok (.ireturn, 1) := by decide +kernel
set_option maxRecDepth 20000 in
theorem ggX11_drop_X11_rackAt : GoodIn wsX11_drop wsX11_rackAt := goodIn_r _ [7, 8, 18, 19, 20, 21, 22, 23, 24, 25, 26, 27, 28, 29, 30, 31] rfl (by decide +kernel)
set_option maxRecDepth 20000 in
theorem gX11_drop_X11_rackAt : GoodIn wsX11_drop (wsV RX11 301 RX11 yX11_rackAt wsX11_rackAt) := goodIn_app (goodIn_of _ (by decide +kernel)) ggX11_drop_X11_rackAt
set_option maxRecDepth 20000 in
theorem ggX11_drop_X7_isMissing : GoodIn wsX11_drop wsX7_isMissing := goodIn_r _ [13, 14, 15, 16, 17] rfl (by decide +kernel)
set_option maxRecDepth 20000 in
theorem gX11_drop_X7_isMissing : GoodIn wsX11_drop (wsV RX11 310 RX7 yX7_isMissing wsX7_isMissing) := goodIn_app (goodIn_of _ (by decide +kernel)) ggX11_drop_X7_isMissing
theorem dX11_drop_0 : decode cX11_drop 0 = .ok (.aload_n 0, 1) := by decide +kernel
theorem dX11_drop_1 : decode cX11_drop 1 = .ok (.iload_n 1, 1) := by decide +kernel
theorem dX11_drop_2 : decode cX11_drop 2 = .ok (.invokevirtual 301, 3) := by decide +kernel
theorem dX11_drop_5 : decode cX11_drop 5 = .ok (.astore_n 2, 1) := by decide +kernel
theorem dX11_drop_6 : decode cX11_drop 6 = .ok (.aload_n 2, 1) := by decide +kernel
theorem dX11_drop_7 : decode cX11_drop 7 = .ok (.ifnonnull 6, 3) := by decide +kernel
theorem dX11_drop_10 : decode cX11_drop 10 = .ok (.bipush (-2), 2) := by decide +kernel
theorem dX11_drop_12 : decode cX11_drop 12 = .ok (.ireturn, 1) := by decide +kernel
theorem dX11_drop_13 : decode cX11_drop 13 = .ok (.aload_n 2, 1) := by decide +kernel
theorem dX11_drop_14 : decode cX11_drop 14 = .ok (.invokevirtual 310, 3) := by decide +kernel
theorem dX11_drop_17 : decode cX11_drop 17 = .ok (.ifCond .eq 6, 3) := by decide +kernel
theorem dX11_drop_20 : decode cX11_drop 20 = .ok (.bipush (-11), 2) := by decide +kernel
theorem dX11_drop_22 : decode cX11_drop 22 = .ok (.ireturn, 1) := by decide +kernel
theorem dX11_drop_23 : decode cX11_drop 23 = .ok (.aload_n 2, 1) := by decide +kernel
theorem dX11_drop_24 : decode cX11_drop 24 = .ok (.iconst (-1), 1) := by decide +kernel
theorem dX11_drop_25 : decode cX11_drop 25 = .ok (.putfield 313, 3) := by decide +kernel
theorem dX11_drop_28 : decode cX11_drop 28 = .ok (.aload_n 2, 1) := by decide +kernel
theorem dX11_drop_29 : decode cX11_drop 29 = .ok (.getfield 343, 3) := by decide +kernel
theorem dX11_drop_32 : decode cX11_drop 32 = .ok (.ireturn, 1) := by decide +kernel
set_option maxRecDepth 20000 in
theorem ggX11_share_X11_rackAt : GoodIn wsX11_share wsX11_rackAt := goodIn_r _ [13, 14, 40, 41, 42, 43, 44, 45, 46, 47, 48, 49, 50, 51, 52, 53] rfl (by decide +kernel)
set_option maxRecDepth 20000 in
theorem gX11_share_X11_rackAt : GoodIn wsX11_share (wsV RX11 301 RX11 yX11_rackAt wsX11_rackAt) := goodIn_app (goodIn_of _ (by decide +kernel)) ggX11_share_X11_rackAt
set_option maxRecDepth 20000 in
theorem ggX11_share_X7_isMissing : GoodIn wsX11_share wsX7_isMissing := goodIn_r _ [19, 20, 37, 38, 39] rfl (by decide +kernel)
set_option maxRecDepth 20000 in
theorem gX11_share_X7_isMissing : GoodIn wsX11_share (wsV RX11 310 RX7 yX7_isMissing wsX7_isMissing) := goodIn_app (goodIn_of _ (by decide +kernel)) ggX11_share_X7_isMissing
set_option maxRecDepth 20000 in
theorem ggX11_share_X7_together : GoodIn wsX11_share wsX7_together := goodIn_r _ [24, 25, 26, 37, 38, 39] rfl (by decide +kernel)
set_option maxRecDepth 20000 in
theorem gX11_share_X7_together : GoodIn wsX11_share (wsV RX11 352 RX7 yX7_together wsX7_together) := goodIn_app (goodIn_of _ (by decide +kernel)) ggX11_share_X7_together
set_option maxRecDepth 20000 in
theorem ggX11_share_X11_lowest : GoodIn wsX11_share wsX11_lowest := goodIn_r _ [29, 30, 31, 32, 33, 34, 35, 12, 36] rfl (by decide +kernel)
set_option maxRecDepth 20000 in
theorem gX11_share_X11_lowest : GoodIn wsX11_share (va_wsS RX11 297 yX11_lowest wsX11_lowest) := goodIn_app (goodIn_of _ (by decide +kernel)) ggX11_share_X11_lowest
theorem dX11_share_0 : decode cX11_share 0 = .ok (.aload_n 0, 1) := by decide +kernel
theorem dX11_share_1 : decode cX11_share 1 = .ok (.iload_n 1, 1) := by decide +kernel
theorem dX11_share_2 : decode cX11_share 2 = .ok (.invokevirtual 301, 3) := by decide +kernel
theorem dX11_share_5 : decode cX11_share 5 = .ok (.astore_n 3, 1) := by decide +kernel
theorem dX11_share_6 : decode cX11_share 6 = .ok (.aload_n 3, 1) := by decide +kernel
theorem dX11_share_7 : decode cX11_share 7 = .ok (.ifnonnull 7, 3) := by decide +kernel
theorem dX11_share_10 : decode cX11_share 10 = .ok (.ldc2_w 323, 3) := by decide +kernel
theorem dX11_share_13 : decode cX11_share 13 = .ok (.lreturn, 1) := by decide +kernel
theorem dX11_share_14 : decode cX11_share 14 = .ok (.iload_n 2, 1) := by decide +kernel
theorem dX11_share_15 : decode cX11_share 15 = .ok (.ifCond .lt 8, 3) := by decide +kernel
theorem dX11_share_18 : decode cX11_share 18 = .ok (.iload_n 2, 1) := by decide +kernel
theorem dX11_share_19 : decode cX11_share 19 = .ok (.iconst 1, 1) := by decide +kernel
theorem dX11_share_20 : decode cX11_share 20 = .ok (.if_icmp .le 7, 3) := by decide +kernel
theorem dX11_share_23 : decode cX11_share 23 = .ok (.ldc2_w 346, 3) := by decide +kernel
theorem dX11_share_26 : decode cX11_share 26 = .ok (.lreturn, 1) := by decide +kernel
theorem dX11_share_27 : decode cX11_share 27 = .ok (.aload_n 3, 1) := by decide +kernel
theorem dX11_share_28 : decode cX11_share 28 = .ok (.invokevirtual 310, 3) := by decide +kernel
theorem dX11_share_31 : decode cX11_share 31 = .ok (.ifCond .eq 7, 3) := by decide +kernel
theorem dX11_share_34 : decode cX11_share 34 = .ok (.ldc2_w 325, 3) := by decide +kernel
theorem dX11_share_37 : decode cX11_share 37 = .ok (.lreturn, 1) := by decide +kernel
theorem dX11_share_38 : decode cX11_share 38 = .ok (.aload_n 3, 1) := by decide +kernel
theorem dX11_share_39 : decode cX11_share 39 = .ok (.getfield 313, 3) := by decide +kernel
theorem dX11_share_42 : decode cX11_share 42 = .ok (.iconst 2, 1) := by decide +kernel
theorem dX11_share_43 : decode cX11_share 43 = .ok (.if_icmp .eq 7, 3) := by decide +kernel
theorem dX11_share_46 : decode cX11_share 46 = .ok (.ldc2_w 348, 3) := by decide +kernel
theorem dX11_share_49 : decode cX11_share 49 = .ok (.lreturn, 1) := by decide +kernel
theorem dX11_share_50 : decode cX11_share 50 = .ok (.aload_n 3, 1) := by decide +kernel
theorem dX11_share_51 : decode cX11_share 51 = .ok (.getfield 343, 3) := by decide +kernel
theorem dX11_share_54 : decode cX11_share 54 = .ok (.ifCond .ne 7, 3) := by decide +kernel
theorem dX11_share_57 : decode cX11_share 57 = .ok (.ldc2_w 350, 3) := by decide +kernel
theorem dX11_share_60 : decode cX11_share 60 = .ok (.lreturn, 1) := by decide +kernel
theorem dX11_share_61 : decode cX11_share 61 = .ok (.aload_n 3, 1) := by decide +kernel
theorem dX11_share_62 : decode cX11_share 62 = .ok (.invokevirtual 352, 3) := by decide +kernel
theorem dX11_share_65 : decode cX11_share 65 = .ok (.aload_n 3, 1) := by decide +kernel
theorem dX11_share_66 : decode cX11_share 66 = .ok (.getfield 343, 3) := by decide +kernel
theorem dX11_share_69 : decode cX11_share 69 = .ok (.i2l, 1) := by decide +kernel
theorem dX11_share_70 : decode cX11_share 70 = .ok (.iload_n 2, 1) := by decide +kernel
theorem dX11_share_71 : decode cX11_share 71 = .ok (.invokestatic 297, 3) := by decide +kernel
theorem dX11_share_74 : decode cX11_share 74 = .ok (.lstore 4, 2) := by decide +kernel
theorem dX11_share_76 : decode cX11_share 76 = .ok (.iload_n 2, 1) := by decide +kernel
theorem dX11_share_77 : decode cX11_share 77 = .ok (.ifCond .ne 12, 3) := by decide +kernel
theorem dX11_share_80 : decode cX11_share 80 = .ok (.lload 4, 2) := by decide +kernel
theorem dX11_share_82 : decode cX11_share 82 = .ok (.ldc2_w 356, 3) := by decide +kernel
theorem dX11_share_85 : decode cX11_share 85 = .ok (.ladd, 1) := by decide +kernel
theorem dX11_share_86 : decode cX11_share 86 = .ok (.goto 5, 3) := by decide +kernel
theorem dX11_share_89 : decode cX11_share 89 = .ok (.lload 4, 2) := by decide +kernel
theorem dX11_share_91 : decode cX11_share 91 = .ok (.lreturn, 1) := by decide +kernel
set_option maxRecDepth 20000 in
theorem ggX11_film_X1_keyAt : GoodIn wsX11_film wsX1_keyAt := goodIn_r _ [9, 10, 11, 144, 145, 146, 147, 148, 149, 150] rfl (by decide +kernel)
set_option maxRecDepth 20000 in
theorem gX11_film_X1_keyAt : GoodIn wsX11_film (wsV RX11 97 RX1 yX1_keyAt wsX1_keyAt) := goodIn_app (goodIn_of _ (by decide +kernel)) ggX11_film_X1_keyAt
set_option maxRecDepth 20000 in
theorem ggX11_film_X11_rackAt : GoodIn wsX11_film wsX11_rackAt := goodIn_r _ [16, 17, 127, 128, 129, 130, 131, 132, 133, 134, 135, 136, 137, 138, 139, 140] rfl (by decide +kernel)
set_option maxRecDepth 20000 in
theorem gX11_film_X11_rackAt : GoodIn wsX11_film (wsV RX11 301 RX11 yX11_rackAt wsX11_rackAt) := goodIn_app (goodIn_of _ (by decide +kernel)) ggX11_film_X11_rackAt
set_option maxRecDepth 20000 in
theorem ggX11_film_X7_isMissing : GoodIn wsX11_film wsX7_isMissing := goodIn_r _ [22, 23, 141, 142, 143] rfl (by decide +kernel)
set_option maxRecDepth 20000 in
theorem gX11_film_X7_isMissing : GoodIn wsX11_film (wsV RX11 310 RX7 yX7_isMissing wsX7_isMissing) := goodIn_app (goodIn_of _ (by decide +kernel)) ggX11_film_X7_isMissing
set_option maxRecDepth 20000 in
theorem ggX11_film_X7_spans : GoodIn wsX11_film wsX7_spans := goodIn_r _ [27, 28, 141, 142, 143] rfl (by decide +kernel)
set_option maxRecDepth 20000 in
theorem gX11_film_X7_spans : GoodIn wsX11_film (wsV RX11 316 RX7 yX7_spans wsX7_spans) := goodIn_app (goodIn_of _ (by decide +kernel)) ggX11_film_X7_spans
set_option maxRecDepth 20000 in
theorem ggX11_film_X9_bentOf : GoodIn wsX11_film wsX9_bentOf := goodIn_r _ [33, 34, 151, 152, 153, 154, 155, 156, 157] rfl (by decide +kernel)
set_option maxRecDepth 20000 in
theorem gX11_film_X9_bentOf : GoodIn wsX11_film (wsV RX11 113 RX9 yX9_bentOf wsX9_bentOf) := goodIn_app (goodIn_of _ (by decide +kernel)) ggX11_film_X9_bentOf
set_option maxRecDepth 20000 in
theorem ggX11_film_X11_locksFor : GoodIn wsX11_film wsX11_locksFor := goodIn_r _ [38, 1, 3, 39, 40, 41, 8, 42, 43, 44, 45, 46, 47, 48, 49, 50, 51, 52, 53, 54, 55, 56, 57, 58, 59, 60, 61, 62, 63, 64, 65, 66, 67, 68, 69, 70, 71, 72, 73, 74, 75, 76, 77, 78, 79, 80, 81, 82, 83, 84, 85, 86, 87, 88, 89, 90, 91, 92, 93, 94, 95, 96, 97, 98, 99, 100, 101, 102, 103, 104, 105, 106, 107, 108, 109, 110, 111, 112, 113, 114, 115, 116, 117, 127, 128, 129, 130, 131, 132, 133, 134, 135, 136, 137, 138, 139, 140, 144, 145, 146, 147, 148, 149, 150, 158, 159, 160, 161, 162, 163, 164, 165, 166, 167, 168, 169] rfl (by decide +kernel)
set_option maxRecDepth 20000 in
theorem gX11_film_X11_locksFor : GoodIn wsX11_film (wsV RX11 226 RX11 yX11_locksFor wsX11_locksFor) := goodIn_app (goodIn_of _ (by decide +kernel)) ggX11_film_X11_locksFor
set_option maxRecDepth 20000 in
theorem ggX11_film_X7_put : GoodIn wsX11_film wsX7_put := goodIn_r _ [121, 28, 122, 123, 124, 125, 21, 126, 23, 141, 142, 143] rfl (by decide +kernel)
set_option maxRecDepth 20000 in
theorem gX11_film_X7_put : GoodIn wsX11_film (wsV RX11 319 RX7 yX7_put wsX7_put) := goodIn_app (goodIn_of _ (by decide +kernel)) ggX11_film_X7_put
theorem dX11_film_0 : decode cX11_film 0 = .ok (.aload_n 0, 1) := by decide +kernel
theorem dX11_film_1 : decode cX11_film 1 = .ok (.getfield 10, 3) := by decide +kernel
theorem dX11_film_4 : decode cX11_film 4 = .ok (.iload_n 1, 1) := by decide +kernel
theorem dX11_film_5 : decode cX11_film 5 = .ok (.invokevirtual 97, 3) := by decide +kernel
theorem dX11_film_8 : decode cX11_film 8 = .ok (.astore 4, 2) := by decide +kernel
theorem dX11_film_10 : decode cX11_film 10 = .ok (.aload_n 0, 1) := by decide +kernel
theorem dX11_film_11 : decode cX11_film 11 = .ok (.iload_n 2, 1) := by decide +kernel
theorem dX11_film_12 : decode cX11_film 12 = .ok (.invokevirtual 301, 3) := by decide +kernel
theorem dX11_film_15 : decode cX11_film 15 = .ok (.astore 5, 2) := by decide +kernel
theorem dX11_film_17 : decode cX11_film 17 = .ok (.aload 4, 2) := by decide +kernel
theorem dX11_film_19 : decode cX11_film 19 = .ok (.ifnull 8, 3) := by decide +kernel
theorem dX11_film_22 : decode cX11_film 22 = .ok (.aload 5, 2) := by decide +kernel
theorem dX11_film_24 : decode cX11_film 24 = .ok (.ifnonnull 6, 3) := by decide +kernel
theorem dX11_film_27 : decode cX11_film 27 = .ok (.bipush (-2), 2) := by decide +kernel
theorem dX11_film_29 : decode cX11_film 29 = .ok (.ireturn, 1) := by decide +kernel
theorem dX11_film_30 : decode cX11_film 30 = .ok (.aload 5, 2) := by decide +kernel
theorem dX11_film_32 : decode cX11_film 32 = .ok (.invokevirtual 310, 3) := by decide +kernel
theorem dX11_film_35 : decode cX11_film 35 = .ok (.ifCond .eq 6, 3) := by decide +kernel
theorem dX11_film_38 : decode cX11_film 38 = .ok (.bipush (-11), 2) := by decide +kernel
theorem dX11_film_40 : decode cX11_film 40 = .ok (.ireturn, 1) := by decide +kernel
theorem dX11_film_41 : decode cX11_film 41 = .ok (.aload 5, 2) := by decide +kernel
theorem dX11_film_43 : decode cX11_film 43 = .ok (.getfield 313, 3) := by decide +kernel
theorem dX11_film_46 : decode cX11_film 46 = .ok (.iconst 4, 1) := by decide +kernel
theorem dX11_film_47 : decode cX11_film 47 = .ok (.if_icmp .eq 6, 3) := by decide +kernel
theorem dX11_film_50 : decode cX11_film 50 = .ok (.bipush (-12), 2) := by decide +kernel
theorem dX11_film_52 : decode cX11_film 52 = .ok (.ireturn, 1) := by decide +kernel
theorem dX11_film_53 : decode cX11_film 53 = .ok (.aload 5, 2) := by decide +kernel
theorem dX11_film_55 : decode cX11_film 55 = .ok (.iload_n 3, 1) := by decide +kernel
theorem dX11_film_56 : decode cX11_film 56 = .ok (.aload_n 0, 1) := by decide +kernel
theorem dX11_film_57 : decode cX11_film 57 = .ok (.getfield 10, 3) := by decide +kernel
theorem dX11_film_60 : decode cX11_film 60 = .ok (.getfield 256, 3) := by decide +kernel
theorem dX11_film_63 : decode cX11_film 63 = .ok (.invokevirtual 316, 3) := by decide +kernel
theorem dX11_film_66 : decode cX11_film 66 = .ok (.ifCond .ne 6, 3) := by decide +kernel
theorem dX11_film_69 : decode cX11_film 69 = .ok (.bipush (-13), 2) := by decide +kernel
theorem dX11_film_71 : decode cX11_film 71 = .ok (.ireturn, 1) := by decide +kernel
theorem dX11_film_72 : decode cX11_film 72 = .ok (.aload_n 0, 1) := by decide +kernel
theorem dX11_film_73 : decode cX11_film 73 = .ok (.aload 4, 2) := by decide +kernel
theorem dX11_film_75 : decode cX11_film 75 = .ok (.aload_n 0, 1) := by decide +kernel
theorem dX11_film_76 : decode cX11_film 76 = .ok (.getfield 26, 3) := by decide +kernel
theorem dX11_film_79 : decode cX11_film 79 = .ok (.iload_n 1, 1) := by decide +kernel
theorem dX11_film_80 : decode cX11_film 80 = .ok (.invokevirtual 113, 3) := by decide +kernel
theorem dX11_film_83 : decode cX11_film 83 = .ok (.invokevirtual 226, 3) := by decide +kernel
theorem dX11_film_86 : decode cX11_film 86 = .ok (.istore 6, 2) := by decide +kernel
theorem dX11_film_88 : decode cX11_film 88 = .ok (.iconst 0, 1) := by decide +kernel
theorem dX11_film_89 : decode cX11_film 89 = .ok (.istore 7, 2) := by decide +kernel
theorem dX11_film_91 : decode cX11_film 91 = .ok (.iload 7, 2) := by decide +kernel
theorem dX11_film_93 : decode cX11_film 93 = .ok (.aload_n 0, 1) := by decide +kernel
theorem dX11_film_94 : decode cX11_film 94 = .ok (.getfield 10, 3) := by decide +kernel
theorem dX11_film_97 : decode cX11_film 97 = .ok (.getfield 256, 3) := by decide +kernel
theorem dX11_film_100 : decode cX11_film 100 = .ok (.if_icmp .ge 26, 3) := by decide +kernel
theorem dX11_film_103 : decode cX11_film 103 = .ok (.aload 5, 2) := by decide +kernel
theorem dX11_film_105 : decode cX11_film 105 = .ok (.iload_n 3, 1) := by decide +kernel
theorem dX11_film_106 : decode cX11_film 106 = .ok (.iload 7, 2) := by decide +kernel
theorem dX11_film_108 : decode cX11_film 108 = .ok (.iadd, 1) := by decide +kernel
theorem dX11_film_109 : decode cX11_film 109 = .ok (.iload 6, 2) := by decide +kernel
theorem dX11_film_111 : decode cX11_film 111 = .ok (.iload 7, 2) := by decide +kernel
theorem dX11_film_113 : decode cX11_film 113 = .ok (.ishr, 1) := by decide +kernel
theorem dX11_film_114 : decode cX11_film 114 = .ok (.iconst 1, 1) := by decide +kernel
theorem dX11_film_115 : decode cX11_film 115 = .ok (.iand, 1) := by decide +kernel
theorem dX11_film_116 : decode cX11_film 116 = .ok (.i2l, 1) := by decide +kernel
theorem dX11_film_117 : decode cX11_film 117 = .ok (.invokevirtual 319, 3) := by decide +kernel
theorem dX11_film_120 : decode cX11_film 120 = .ok (.iinc 7 1, 3) := by decide +kernel
theorem dX11_film_123 : decode cX11_film 123 = .ok (.goto (-32), 3) := by decide +kernel
theorem dX11_film_126 : decode cX11_film 126 = .ok (.aload_n 0, 1) := by decide +kernel
theorem dX11_film_127 : decode cX11_film 127 = .ok (.getfield 10, 3) := by decide +kernel
theorem dX11_film_130 : decode cX11_film 130 = .ok (.getfield 256, 3) := by decide +kernel
theorem dX11_film_133 : decode cX11_film 133 = .ok (.ireturn, 1) := by decide +kernel
set_option maxRecDepth 20000 in
theorem ggX11_count_X11_brokenKeys : GoodIn wsX11_count wsX11_brokenKeys := goodIn_r _ [18, 1, 2, 19, 20, 21, 17, 22, 6, 23, 24, 25, 26, 27, 28, 53, 54, 55, 56, 57, 58, 59, 60, 61, 62, 63, 64, 65, 66, 67, 68, 69, 70, 71, 72, 73, 74, 75, 76, 77, 78, 79, 80] rfl (by decide +kernel)
set_option maxRecDepth 20000 in
theorem gX11_count_X11_brokenKeys : GoodIn wsX11_count (wsV RX11 361 RX11 yX11_brokenKeys wsX11_brokenKeys) := goodIn_app (goodIn_of _ (by decide +kernel)) ggX11_count_X11_brokenKeys
set_option maxRecDepth 20000 in
theorem ggX11_count_X11_latestMinute : GoodIn wsX11_count wsX11_latestMinute := goodIn_r _ [32, 1, 4, 6, 33, 34, 35, 36, 37, 38, 39, 26, 40, 41, 53, 54, 55, 56, 57, 58, 59, 60, 61, 62, 63, 64, 65, 66, 67, 68, 69, 70, 71, 72, 73, 74, 75, 76, 77, 78, 79, 80] rfl (by decide +kernel)
set_option maxRecDepth 20000 in
theorem gX11_count_X11_latestMinute : GoodIn wsX11_count (wsV RX11 367 RX11 yX11_latestMinute wsX11_latestMinute) := goodIn_app (goodIn_of _ (by decide +kernel)) ggX11_count_X11_latestMinute
set_option maxRecDepth 20000 in
theorem ggX11_count_X11_racksThere : GoodIn wsX11_count wsX11_racksThere := goodIn_r _ [45, 46, 47, 48, 49, 50, 51, 52, 53, 54, 55, 56, 57, 58, 59, 60, 61, 62, 63, 64, 65, 66, 91, 92, 93] rfl (by decide +kernel)
set_option maxRecDepth 20000 in
theorem gX11_count_X11_racksThere : GoodIn wsX11_count (wsV RX11 370 RX11 yX11_racksThere wsX11_racksThere) := goodIn_app (goodIn_of _ (by decide +kernel)) ggX11_count_X11_racksThere
theorem dX11_count_0 : decode cX11_count 0 = .ok (.iload_n 1, 1) := by decide +kernel
theorem dX11_count_1 : decode cX11_count 1 = .ok (.tableswitch 156 0 12 #[67, 75, 83, 91, 99, 107, 115, 120, 128, 133, 138, 143, 148], 67) := by decide +kernel
theorem dX11_count_68 : decode cX11_count 68 = .ok (.aload_n 0, 1) := by decide +kernel
theorem dX11_count_69 : decode cX11_count 69 = .ok (.getfield 10, 3) := by decide +kernel
theorem dX11_count_72 : decode cX11_count 72 = .ok (.getfield 234, 3) := by decide +kernel
theorem dX11_count_75 : decode cX11_count 75 = .ok (.ireturn, 1) := by decide +kernel
theorem dX11_count_76 : decode cX11_count 76 = .ok (.aload_n 0, 1) := by decide +kernel
theorem dX11_count_77 : decode cX11_count 77 = .ok (.getfield 10, 3) := by decide +kernel
theorem dX11_count_80 : decode cX11_count 80 = .ok (.getfield 256, 3) := by decide +kernel
theorem dX11_count_83 : decode cX11_count 83 = .ok (.ireturn, 1) := by decide +kernel
theorem dX11_count_84 : decode cX11_count 84 = .ok (.aload_n 0, 1) := by decide +kernel
theorem dX11_count_85 : decode cX11_count 85 = .ok (.getfield 10, 3) := by decide +kernel
theorem dX11_count_88 : decode cX11_count 88 = .ok (.getfield 262, 3) := by decide +kernel
theorem dX11_count_91 : decode cX11_count 91 = .ok (.ireturn, 1) := by decide +kernel
theorem dX11_count_92 : decode cX11_count 92 = .ok (.aload_n 0, 1) := by decide +kernel
theorem dX11_count_93 : decode cX11_count 93 = .ok (.getfield 10, 3) := by decide +kernel
theorem dX11_count_96 : decode cX11_count 96 = .ok (.getfield 177, 3) := by decide +kernel
theorem dX11_count_99 : decode cX11_count 99 = .ok (.ireturn, 1) := by decide +kernel
theorem dX11_count_100 : decode cX11_count 100 = .ok (.aload_n 0, 1) := by decide +kernel
theorem dX11_count_101 : decode cX11_count 101 = .ok (.getfield 26, 3) := by decide +kernel
theorem dX11_count_104 : decode cX11_count 104 = .ok (.getfield 205, 3) := by decide +kernel
theorem dX11_count_107 : decode cX11_count 107 = .ok (.ireturn, 1) := by decide +kernel
theorem dX11_count_108 : decode cX11_count 108 = .ok (.aload_n 0, 1) := by decide +kernel
theorem dX11_count_109 : decode cX11_count 109 = .ok (.getfield 26, 3) := by decide +kernel
theorem dX11_count_112 : decode cX11_count 112 = .ok (.getfield 358, 3) := by decide +kernel
theorem dX11_count_115 : decode cX11_count 115 = .ok (.ireturn, 1) := by decide +kernel
theorem dX11_count_116 : decode cX11_count 116 = .ok (.aload_n 0, 1) := by decide +kernel
theorem dX11_count_117 : decode cX11_count 117 = .ok (.invokevirtual 361, 3) := by decide +kernel
theorem dX11_count_120 : decode cX11_count 120 = .ok (.ireturn, 1) := by decide +kernel
theorem dX11_count_121 : decode cX11_count 121 = .ok (.aload_n 0, 1) := by decide +kernel
theorem dX11_count_122 : decode cX11_count 122 = .ok (.getfield 26, 3) := by decide +kernel
theorem dX11_count_125 : decode cX11_count 125 = .ok (.getfield 364, 3) := by decide +kernel
theorem dX11_count_128 : decode cX11_count 128 = .ok (.ireturn, 1) := by decide +kernel
theorem dX11_count_129 : decode cX11_count 129 = .ok (.aload_n 0, 1) := by decide +kernel
theorem dX11_count_130 : decode cX11_count 130 = .ok (.invokevirtual 367, 3) := by decide +kernel
theorem dX11_count_133 : decode cX11_count 133 = .ok (.ireturn, 1) := by decide +kernel
theorem dX11_count_134 : decode cX11_count 134 = .ok (.aload_n 0, 1) := by decide +kernel
theorem dX11_count_135 : decode cX11_count 135 = .ok (.getfield 88, 3) := by decide +kernel
theorem dX11_count_138 : decode cX11_count 138 = .ok (.ireturn, 1) := by decide +kernel
theorem dX11_count_139 : decode cX11_count 139 = .ok (.aload_n 0, 1) := by decide +kernel
theorem dX11_count_140 : decode cX11_count 140 = .ok (.invokevirtual 370, 3) := by decide +kernel
theorem dX11_count_143 : decode cX11_count 143 = .ok (.ireturn, 1) := by decide +kernel
theorem dX11_count_144 : decode cX11_count 144 = .ok (.aload_n 0, 1) := by decide +kernel
theorem dX11_count_145 : decode cX11_count 145 = .ok (.getfield 94, 3) := by decide +kernel
theorem dX11_count_148 : decode cX11_count 148 = .ok (.ireturn, 1) := by decide +kernel
theorem dX11_count_149 : decode cX11_count 149 = .ok (.aload_n 0, 1) := by decide +kernel
theorem dX11_count_150 : decode cX11_count 150 = .ok (.getfield 19, 3) := by decide +kernel
theorem dX11_count_153 : decode cX11_count 153 = .ok (.getfield 70, 3) := by decide +kernel
theorem dX11_count_156 : decode cX11_count 156 = .ok (.ireturn, 1) := by decide +kernel
theorem dX11_count_157 : decode cX11_count 157 = .ok (.bipush (-3), 2) := by decide +kernel
theorem dX11_count_159 : decode cX11_count 159 = .ok (.ireturn, 1) := by decide +kernel
set_option maxRecDepth 20000 in
theorem ggX11_tell_X10_wordOf : GoodIn wsX11_tell wsX10_wordOf := goodIn_r _ [23, 24, 119, 120, 121, 122, 123, 124, 125, 126, 127, 128] rfl (by decide +kernel)
set_option maxRecDepth 20000 in
theorem gX11_tell_X10_wordOf : GoodIn wsX11_tell (wsV RX11 373 RX10 yX10_wordOf wsX10_wordOf) := goodIn_app (goodIn_of _ (by decide +kernel)) ggX11_tell_X10_wordOf
set_option maxRecDepth 20000 in
theorem ggX11_tell_X10_numberOf : GoodIn wsX11_tell wsX10_numberOf := goodIn_r _ [28, 29, 119, 120, 121, 122, 123, 124, 125, 126, 127, 128] rfl (by decide +kernel)
set_option maxRecDepth 20000 in
theorem gX11_tell_X10_numberOf : GoodIn wsX11_tell (wsV RX11 376 RX10 yX10_numberOf wsX10_numberOf) := goodIn_app (goodIn_of _ (by decide +kernel)) ggX11_tell_X10_numberOf
set_option maxRecDepth 20000 in
theorem ggX11_tell_X1_clear : GoodIn wsX11_tell wsX1_clear := goodIn_r _ [34, 35, 36, 37, 38, 112, 113, 114, 115, 116, 117, 118] rfl (by decide +kernel)
set_option maxRecDepth 20000 in
theorem gX11_tell_X1_clear : GoodIn wsX11_tell (wsV RX11 379 RX1 yX1_clear wsX1_clear) := goodIn_app (goodIn_of _ (by decide +kernel)) ggX11_tell_X1_clear
set_option maxRecDepth 20000 in
theorem ggX11_tell_X0_init : GoodIn wsX11_tell wsX0_init := goodIn_r _ [41, 42, 43, 44, 45, 46, 47, 48, 49, 50, 100, 101, 106, 107, 104, 105, 102, 103] rfl (by decide +kernel)
set_option maxRecDepth 20000 in
theorem gX11_tell_X0_init : GoodIn wsX11_tell (wsX0_init) := ggX11_tell_X0_init
set_option maxRecDepth 20000 in
theorem ggX11_tell_X1_addKey : GoodIn wsX11_tell wsX1_addKey := goodIn_r _ [54, 35, 55, 112, 113, 114, 115, 116, 117, 118] rfl (by decide +kernel)
set_option maxRecDepth 20000 in
theorem gX11_tell_X1_addKey : GoodIn wsX11_tell (wsV RX11 386 RX1 yX1_addKey wsX1_addKey) := goodIn_app (goodIn_of _ (by decide +kernel)) ggX11_tell_X1_addKey
set_option maxRecDepth 20000 in
theorem ggX11_tell_X8_init : GoodIn wsX11_tell wsX8_init := goodIn_r _ [58, 59, 40, 5, 41, 42, 43, 44, 45, 46, 47, 48, 49, 50, 100, 101, 106, 107, 104, 105, 102, 103] rfl (by decide +kernel)
set_option maxRecDepth 20000 in
theorem gX11_tell_X8_init : GoodIn wsX11_tell (wsX8_init) := ggX11_tell_X8_init
set_option maxRecDepth 20000 in
theorem ggX11_tell_X5_init : GoodIn wsX11_tell wsX5_init := goodIn_r _ [62, 63, 40, 5, 41, 42, 43, 44, 45, 46, 47, 48, 49, 50, 100, 101, 106, 107, 104, 105, 102, 103] rfl (by decide +kernel)
set_option maxRecDepth 20000 in
theorem gX11_tell_X5_init : GoodIn wsX11_tell (wsX5_init) := ggX11_tell_X5_init
set_option maxRecDepth 20000 in
theorem ggX11_tell_X2_init : GoodIn wsX11_tell wsX2_init := goodIn_r _ [66, 67, 43, 44, 45, 46, 47, 48, 49, 50, 100, 101, 106, 107, 104, 105, 102, 103] rfl (by decide +kernel)
set_option maxRecDepth 20000 in
theorem gX11_tell_X2_init : GoodIn wsX11_tell (wsX2_init) := ggX11_tell_X2_init
set_option maxRecDepth 20000 in
theorem ggX11_tell_X4_init : GoodIn wsX11_tell wsX4_init := goodIn_r _ [70, 71, 47, 48, 72, 73, 74, 75, 108, 109, 110, 111] rfl (by decide +kernel)
set_option maxRecDepth 20000 in
theorem gX11_tell_X4_init : GoodIn wsX11_tell (wsX4_init) := ggX11_tell_X4_init
set_option maxRecDepth 20000 in
theorem ggX11_tell_X1_addLock : GoodIn wsX11_tell wsX1_addLock := goodIn_r _ [79, 36, 80, 112, 113, 114, 115, 116, 117, 118] rfl (by decide +kernel)
set_option maxRecDepth 20000 in
theorem gX11_tell_X1_addLock : GoodIn wsX11_tell (wsV RX11 401 RX1 yX1_addLock wsX1_addLock) := goodIn_app (goodIn_of _ (by decide +kernel)) ggX11_tell_X1_addLock
set_option maxRecDepth 20000 in
theorem ggX11_tell_X1_addWalker : GoodIn wsX11_tell wsX1_addWalker := goodIn_r _ [84, 37, 85, 112, 113, 114, 115, 116, 117, 118] rfl (by decide +kernel)
set_option maxRecDepth 20000 in
theorem gX11_tell_X1_addWalker : GoodIn wsX11_tell (wsV RX11 405 RX1 yX1_addWalker wsX1_addWalker) := goodIn_app (goodIn_of _ (by decide +kernel)) ggX11_tell_X1_addWalker
theorem dX11_tell_0 : decode cX11_tell 0 = .ok (.aload_n 0, 1) := by decide +kernel
theorem dX11_tell_1 : decode cX11_tell 1 = .ok (.getfield 19, 3) := by decide +kernel
theorem dX11_tell_4 : decode cX11_tell 4 = .ok (.iload_n 1, 1) := by decide +kernel
theorem dX11_tell_5 : decode cX11_tell 5 = .ok (.invokevirtual 373, 3) := by decide +kernel
theorem dX11_tell_8 : decode cX11_tell 8 = .ok (.istore_n 2, 1) := by decide +kernel
theorem dX11_tell_9 : decode cX11_tell 9 = .ok (.aload_n 0, 1) := by decide +kernel
theorem dX11_tell_10 : decode cX11_tell 10 = .ok (.getfield 19, 3) := by decide +kernel
theorem dX11_tell_13 : decode cX11_tell 13 = .ok (.iload_n 1, 1) := by decide +kernel
theorem dX11_tell_14 : decode cX11_tell 14 = .ok (.iconst 0, 1) := by decide +kernel
theorem dX11_tell_15 : decode cX11_tell 15 = .ok (.invokevirtual 376, 3) := by decide +kernel
theorem dX11_tell_18 : decode cX11_tell 18 = .ok (.istore_n 3, 1) := by decide +kernel
theorem dX11_tell_19 : decode cX11_tell 19 = .ok (.aload_n 0, 1) := by decide +kernel
theorem dX11_tell_20 : decode cX11_tell 20 = .ok (.getfield 19, 3) := by decide +kernel
theorem dX11_tell_23 : decode cX11_tell 23 = .ok (.iload_n 1, 1) := by decide +kernel
theorem dX11_tell_24 : decode cX11_tell 24 = .ok (.iconst 1, 1) := by decide +kernel
theorem dX11_tell_25 : decode cX11_tell 25 = .ok (.invokevirtual 376, 3) := by decide +kernel
theorem dX11_tell_28 : decode cX11_tell 28 = .ok (.istore 4, 2) := by decide +kernel
theorem dX11_tell_30 : decode cX11_tell 30 = .ok (.iload_n 2, 1) := by decide +kernel
theorem dX11_tell_31 : decode cX11_tell 31 = .ok (.tableswitch 192 0 7 #[45, 55, 74, 94, 112, 132, 170, 181], 45) := by decide +kernel
theorem dX11_tell_76 : decode cX11_tell 76 = .ok (.aload_n 0, 1) := by decide +kernel
theorem dX11_tell_77 : decode cX11_tell 77 = .ok (.getfield 10, 3) := by decide +kernel
theorem dX11_tell_80 : decode cX11_tell 80 = .ok (.invokevirtual 379, 3) := by decide +kernel
theorem dX11_tell_83 : decode cX11_tell 83 = .ok (.goto 140, 3) := by decide +kernel
theorem dX11_tell_86 : decode cX11_tell 86 = .ok (.aload_n 0, 1) := by decide +kernel
theorem dX11_tell_87 : decode cX11_tell 87 = .ok (.getfield 10, 3) := by decide +kernel
theorem dX11_tell_90 : decode cX11_tell 90 = .ok (.new 382, 3) := by decide +kernel
theorem dX11_tell_93 : decode cX11_tell 93 = .ok (.dup, 1) := by decide +kernel
theorem dX11_tell_94 : decode cX11_tell 94 = .ok (.iload_n 3, 1) := by decide +kernel
theorem dX11_tell_95 : decode cX11_tell 95 = .ok (.iconst 0, 1) := by decide +kernel
theorem dX11_tell_96 : decode cX11_tell 96 = .ok (.invokespecial 384, 3) := by decide +kernel
theorem dX11_tell_99 : decode cX11_tell 99 = .ok (.invokevirtual 386, 3) := by decide +kernel
theorem dX11_tell_102 : decode cX11_tell 102 = .ok (.goto 121, 3) := by decide +kernel
theorem dX11_tell_105 : decode cX11_tell 105 = .ok (.aload_n 0, 1) := by decide +kernel
theorem dX11_tell_106 : decode cX11_tell 106 = .ok (.getfield 10, 3) := by decide +kernel
theorem dX11_tell_109 : decode cX11_tell 109 = .ok (.new 390, 3) := by decide +kernel
theorem dX11_tell_112 : decode cX11_tell 112 = .ok (.dup, 1) := by decide +kernel
theorem dX11_tell_113 : decode cX11_tell 113 = .ok (.iload_n 3, 1) := by decide +kernel
theorem dX11_tell_114 : decode cX11_tell 114 = .ok (.iload 4, 2) := by decide +kernel
theorem dX11_tell_116 : decode cX11_tell 116 = .ok (.invokespecial 392, 3) := by decide +kernel
theorem dX11_tell_119 : decode cX11_tell 119 = .ok (.invokevirtual 386, 3) := by decide +kernel
theorem dX11_tell_122 : decode cX11_tell 122 = .ok (.goto 101, 3) := by decide +kernel
theorem dX11_tell_125 : decode cX11_tell 125 = .ok (.aload_n 0, 1) := by decide +kernel
theorem dX11_tell_126 : decode cX11_tell 126 = .ok (.getfield 10, 3) := by decide +kernel
theorem dX11_tell_129 : decode cX11_tell 129 = .ok (.new 194, 3) := by decide +kernel
theorem dX11_tell_132 : decode cX11_tell 132 = .ok (.dup, 1) := by decide +kernel
theorem dX11_tell_133 : decode cX11_tell 133 = .ok (.iload_n 3, 1) := by decide +kernel
theorem dX11_tell_134 : decode cX11_tell 134 = .ok (.invokespecial 393, 3) := by decide +kernel
theorem dX11_tell_137 : decode cX11_tell 137 = .ok (.invokevirtual 386, 3) := by decide +kernel
theorem dX11_tell_140 : decode cX11_tell 140 = .ok (.goto 83, 3) := by decide +kernel
theorem dX11_tell_143 : decode cX11_tell 143 = .ok (.aload_n 0, 1) := by decide +kernel
theorem dX11_tell_144 : decode cX11_tell 144 = .ok (.getfield 10, 3) := by decide +kernel
theorem dX11_tell_147 : decode cX11_tell 147 = .ok (.new 395, 3) := by decide +kernel
theorem dX11_tell_150 : decode cX11_tell 150 = .ok (.dup, 1) := by decide +kernel
theorem dX11_tell_151 : decode cX11_tell 151 = .ok (.iload_n 3, 1) := by decide +kernel
theorem dX11_tell_152 : decode cX11_tell 152 = .ok (.iload 4, 2) := by decide +kernel
theorem dX11_tell_154 : decode cX11_tell 154 = .ok (.invokespecial 397, 3) := by decide +kernel
theorem dX11_tell_157 : decode cX11_tell 157 = .ok (.invokevirtual 386, 3) := by decide +kernel
theorem dX11_tell_160 : decode cX11_tell 160 = .ok (.goto 63, 3) := by decide +kernel
theorem dX11_tell_163 : decode cX11_tell 163 = .ok (.aload_n 0, 1) := by decide +kernel
theorem dX11_tell_164 : decode cX11_tell 164 = .ok (.getfield 10, 3) := by decide +kernel
theorem dX11_tell_167 : decode cX11_tell 167 = .ok (.new 132, 3) := by decide +kernel
theorem dX11_tell_170 : decode cX11_tell 170 = .ok (.dup, 1) := by decide +kernel
theorem dX11_tell_171 : decode cX11_tell 171 = .ok (.iload_n 3, 1) := by decide +kernel
theorem dX11_tell_172 : decode cX11_tell 172 = .ok (.iload 4, 2) := by decide +kernel
theorem dX11_tell_174 : decode cX11_tell 174 = .ok (.aload_n 0, 1) := by decide +kernel
theorem dX11_tell_175 : decode cX11_tell 175 = .ok (.getfield 19, 3) := by decide +kernel
theorem dX11_tell_178 : decode cX11_tell 178 = .ok (.iload_n 1, 1) := by decide +kernel
theorem dX11_tell_179 : decode cX11_tell 179 = .ok (.iconst 2, 1) := by decide +kernel
theorem dX11_tell_180 : decode cX11_tell 180 = .ok (.invokevirtual 376, 3) := by decide +kernel
theorem dX11_tell_183 : decode cX11_tell 183 = .ok (.aload_n 0, 1) := by decide +kernel
theorem dX11_tell_184 : decode cX11_tell 184 = .ok (.getfield 19, 3) := by decide +kernel
theorem dX11_tell_187 : decode cX11_tell 187 = .ok (.iload_n 1, 1) := by decide +kernel
theorem dX11_tell_188 : decode cX11_tell 188 = .ok (.iconst 3, 1) := by decide +kernel
theorem dX11_tell_189 : decode cX11_tell 189 = .ok (.invokevirtual 376, 3) := by decide +kernel
theorem dX11_tell_192 : decode cX11_tell 192 = .ok (.invokespecial 398, 3) := by decide +kernel
theorem dX11_tell_195 : decode cX11_tell 195 = .ok (.invokevirtual 401, 3) := by decide +kernel
theorem dX11_tell_198 : decode cX11_tell 198 = .ok (.goto 25, 3) := by decide +kernel
theorem dX11_tell_201 : decode cX11_tell 201 = .ok (.aload_n 0, 1) := by decide +kernel
theorem dX11_tell_202 : decode cX11_tell 202 = .ok (.getfield 10, 3) := by decide +kernel
theorem dX11_tell_205 : decode cX11_tell 205 = .ok (.iload_n 3, 1) := by decide +kernel
theorem dX11_tell_206 : decode cX11_tell 206 = .ok (.invokevirtual 405, 3) := by decide +kernel
theorem dX11_tell_209 : decode cX11_tell 209 = .ok (.goto 14, 3) := by decide +kernel
theorem dX11_tell_212 : decode cX11_tell 212 = .ok (.aload_n 0, 1) := by decide +kernel
theorem dX11_tell_213 : decode cX11_tell 213 = .ok (.getfield 10, 3) := by decide +kernel
theorem dX11_tell_216 : decode cX11_tell 216 = .ok (.iload_n 3, 1) := by decide +kernel
theorem dX11_tell_217 : decode cX11_tell 217 = .ok (.putfield 177, 3) := by decide +kernel
theorem dX11_tell_220 : decode cX11_tell 220 = .ok (.goto 3, 3) := by decide +kernel
theorem dX11_tell_223 : decode cX11_tell 223 = .ok (.return_, 1) := by decide +kernel
theorem dX11_isOfKind_0 : decode cX11_isOfKind 0 = .ok (.iload_n 1, 1) := by decide +kernel
theorem dX11_isOfKind_1 : decode cX11_isOfKind 1 = .ok (.tableswitch 57 0 4 #[35, 37, 42, 47, 52], 35) := by decide +kernel
theorem dX11_isOfKind_36 : decode cX11_isOfKind 36 = .ok (.iconst 1, 1) := by decide +kernel
theorem dX11_isOfKind_37 : decode cX11_isOfKind 37 = .ok (.ireturn, 1) := by decide +kernel
theorem dX11_isOfKind_38 : decode cX11_isOfKind 38 = .ok (.aload_n 0, 1) := by decide +kernel
theorem dX11_isOfKind_39 : decode cX11_isOfKind 39 = .ok (.instanceof 382, 3) := by decide +kernel
theorem dX11_isOfKind_42 : decode cX11_isOfKind 42 = .ok (.ireturn, 1) := by decide +kernel
theorem dX11_isOfKind_43 : decode cX11_isOfKind 43 = .ok (.aload_n 0, 1) := by decide +kernel
theorem dX11_isOfKind_44 : decode cX11_isOfKind 44 = .ok (.instanceof 390, 3) := by decide +kernel
theorem dX11_isOfKind_47 : decode cX11_isOfKind 47 = .ok (.ireturn, 1) := by decide +kernel
theorem dX11_isOfKind_48 : decode cX11_isOfKind 48 = .ok (.aload_n 0, 1) := by decide +kernel
theorem dX11_isOfKind_49 : decode cX11_isOfKind 49 = .ok (.instanceof 194, 3) := by decide +kernel
theorem dX11_isOfKind_52 : decode cX11_isOfKind 52 = .ok (.ireturn, 1) := by decide +kernel
theorem dX11_isOfKind_53 : decode cX11_isOfKind 53 = .ok (.aload_n 0, 1) := by decide +kernel
theorem dX11_isOfKind_54 : decode cX11_isOfKind 54 = .ok (.instanceof 395, 3) := by decide +kernel
theorem dX11_isOfKind_57 : decode cX11_isOfKind 57 = .ok (.ireturn, 1) := by decide +kernel
theorem dX11_isOfKind_58 : decode cX11_isOfKind 58 = .ok (.iconst 0, 1) := by decide +kernel
theorem dX11_isOfKind_59 : decode cX11_isOfKind 59 = .ok (.ireturn, 1) := by decide +kernel
set_option maxRecDepth 20000 in
theorem ggX11_isBroken_X9_turnedOf : GoodIn wsX11_isBroken wsX9_turnedOf := goodIn_r _ [6, 7, 22, 23, 24, 25, 26, 27, 28] rfl (by decide +kernel)
set_option maxRecDepth 20000 in
theorem gX11_isBroken_X9_turnedOf : GoodIn wsX11_isBroken (wsV RX11 117 RX9 yX9_turnedOf wsX9_turnedOf) := goodIn_app (goodIn_of _ (by decide +kernel)) ggX11_isBroken_X9_turnedOf
theorem dX11_isBroken_0 : decode cX11_isBroken 0 = .ok (.aload_n 0, 1) := by decide +kernel
theorem dX11_isBroken_1 : decode cX11_isBroken 1 = .ok (.getfield 26, 3) := by decide +kernel
theorem dX11_isBroken_4 : decode cX11_isBroken 4 = .ok (.iload_n 1, 1) := by decide +kernel
theorem dX11_isBroken_5 : decode cX11_isBroken 5 = .ok (.invokevirtual 117, 3) := by decide +kernel
theorem dX11_isBroken_8 : decode cX11_isBroken 8 = .ok (.iconst 3, 1) := by decide +kernel
theorem dX11_isBroken_9 : decode cX11_isBroken 9 = .ok (.if_icmp .lt 7, 3) := by decide +kernel
theorem dX11_isBroken_12 : decode cX11_isBroken 12 = .ok (.iconst 1, 1) := by decide +kernel
theorem dX11_isBroken_13 : decode cX11_isBroken 13 = .ok (.goto 4, 3) := by decide +kernel
theorem dX11_isBroken_16 : decode cX11_isBroken 16 = .ok (.iconst 0, 1) := by decide +kernel
theorem dX11_isBroken_17 : decode cX11_isBroken 17 = .ok (.ireturn, 1) := by decide +kernel
set_option maxRecDepth 20000 in
theorem ggX11_remember_X11_pastAt : GoodIn wsX11_remember wsX11_pastAt := goodIn_r _ [12, 13, 14, 15, 16, 17, 30, 31, 32, 33, 34, 35, 36, 37, 38, 39, 40, 41, 42, 43] rfl (by decide +kernel)
set_option maxRecDepth 20000 in
theorem gX11_remember_X11_pastAt : GoodIn wsX11_remember (wsV RX11 214 RX11 yX11_pastAt wsX11_pastAt) := goodIn_app (goodIn_of _ (by decide +kernel)) ggX11_remember_X11_pastAt
set_option maxRecDepth 20000 in
theorem ggX11_remember_X9_takeFrom : GoodIn wsX11_remember wsX9_takeFrom := goodIn_r _ [22, 23, 24, 25, 26, 27, 28, 29, 44, 45, 46, 47, 48, 49, 50] rfl (by decide +kernel)
set_option maxRecDepth 20000 in
theorem gX11_remember_X9_takeFrom : GoodIn wsX11_remember (wsV RX11 218 RX9 yX9_takeFrom wsX9_takeFrom) := goodIn_app (goodIn_of _ (by decide +kernel)) ggX11_remember_X9_takeFrom
theorem dX11_remember_0 : decode cX11_remember 0 = .ok (.aload_n 0, 1) := by decide +kernel
theorem dX11_remember_1 : decode cX11_remember 1 = .ok (.aload_n 0, 1) := by decide +kernel
theorem dX11_remember_2 : decode cX11_remember 2 = .ok (.getfield 211, 3) := by decide +kernel
theorem dX11_remember_5 : decode cX11_remember 5 = .ok (.invokevirtual 214, 3) := by decide +kernel
theorem dX11_remember_8 : decode cX11_remember 8 = .ok (.aload_n 0, 1) := by decide +kernel
theorem dX11_remember_9 : decode cX11_remember 9 = .ok (.getfield 26, 3) := by decide +kernel
theorem dX11_remember_12 : decode cX11_remember 12 = .ok (.invokevirtual 218, 3) := by decide +kernel
theorem dX11_remember_15 : decode cX11_remember 15 = .ok (.aload_n 0, 1) := by decide +kernel
theorem dX11_remember_16 : decode cX11_remember 16 = .ok (.dup, 1) := by decide +kernel
theorem dX11_remember_17 : decode cX11_remember 17 = .ok (.getfield 211, 3) := by decide +kernel
theorem dX11_remember_20 : decode cX11_remember 20 = .ok (.iconst 1, 1) := by decide +kernel
theorem dX11_remember_21 : decode cX11_remember 21 = .ok (.iadd, 1) := by decide +kernel
theorem dX11_remember_22 : decode cX11_remember 22 = .ok (.putfield 211, 3) := by decide +kernel
theorem dX11_remember_25 : decode cX11_remember 25 = .ok (.aload_n 0, 1) := by decide +kernel
theorem dX11_remember_26 : decode cX11_remember 26 = .ok (.aload_n 0, 1) := by decide +kernel
theorem dX11_remember_27 : decode cX11_remember 27 = .ok (.getfield 94, 3) := by decide +kernel
theorem dX11_remember_30 : decode cX11_remember 30 = .ok (.iconst 1, 1) := by decide +kernel
theorem dX11_remember_31 : decode cX11_remember 31 = .ok (.iadd, 1) := by decide +kernel
theorem dX11_remember_32 : decode cX11_remember 32 = .ok (.bipush 8, 2) := by decide +kernel
theorem dX11_remember_34 : decode cX11_remember 34 = .ok (.invokestatic 289, 3) := by decide +kernel
theorem dX11_remember_37 : decode cX11_remember 37 = .ok (.putfield 94, 3) := by decide +kernel
theorem dX11_remember_40 : decode cX11_remember 40 = .ok (.return_, 1) := by decide +kernel
set_option maxRecDepth 20000 in
theorem ggX11_pastAt_J9_floorMod_7cf53 : GoodIn wsX11_pastAt wsJ9_floorMod_7cf53 := goodIn_r _ [5] rfl (by decide +kernel)
set_option maxRecDepth 20000 in
theorem gX11_pastAt_J9_floorMod_7cf53 : GoodIn wsX11_pastAt (va_wsS RX11 408 yJ9_floorMod_7cf53 wsJ9_floorMod_7cf53) := goodIn_app (goodIn_of _ (by decide +kernel)) ggX11_pastAt_J9_floorMod_7cf53
theorem dX11_pastAt_0 : decode cX11_pastAt 0 = .ok (.aload_n 0, 1) := by decide +kernel
theorem dX11_pastAt_1 : decode cX11_pastAt 1 = .ok (.getfield 30, 3) := by decide +kernel
theorem dX11_pastAt_4 : decode cX11_pastAt 4 = .ok (.iload_n 1, 1) := by decide +kernel
theorem dX11_pastAt_5 : decode cX11_pastAt 5 = .ok (.bipush 8, 2) := by decide +kernel
theorem dX11_pastAt_7 : decode cX11_pastAt 7 = .ok (.invokestatic 408, 3) := by decide +kernel
theorem dX11_pastAt_10 : decode cX11_pastAt 10 = .ok (.aaload, 1) := by decide +kernel
theorem dX11_pastAt_11 : decode cX11_pastAt 11 = .ok (.areturn, 1) := by decide +kernel
set_option maxRecDepth 20000 in
theorem ggX11_locksFor_X1_lockAt : GoodIn wsX11_locksFor wsX1_lockAt := goodIn_r _ [7, 8, 9, 97, 98, 99, 100, 101, 102, 103] rfl (by decide +kernel)
set_option maxRecDepth 20000 in
theorem gX11_locksFor_X1_lockAt : GoodIn wsX11_locksFor (wsV RX11 127 RX1 yX1_lockAt wsX1_lockAt) := goodIn_app (goodIn_of _ (by decide +kernel)) ggX11_locksFor_X1_lockAt
set_option maxRecDepth 20000 in
theorem ggX11_locksFor_X4_letsIn : GoodIn wsX11_locksFor wsX4_letsIn := goodIn_r _ [14, 15, 16, 17, 18, 19, 20, 21, 22, 23, 24, 25, 26, 27, 28, 29, 30, 31, 32, 33, 34, 35, 36, 37, 38, 39, 40, 41, 42, 43, 44, 45, 46, 47, 48, 49, 50, 51, 52, 13, 53, 54, 55, 56, 57, 58, 59, 60, 61, 62, 63, 64, 65, 66, 67, 68, 69, 70, 71, 72, 73, 74, 75, 76, 77, 78, 79, 80, 81, 82, 104, 105, 106, 107, 108, 109, 110, 111, 112, 113, 114, 115] rfl (by decide +kernel)
set_option maxRecDepth 20000 in
theorem gX11_locksFor_X4_letsIn : GoodIn wsX11_locksFor (wsV RX11 163 RX4 yX4_letsIn wsX4_letsIn) := goodIn_app (goodIn_of _ (by decide +kernel)) ggX11_locksFor_X4_letsIn
theorem dX11_locksFor_0 : decode cX11_locksFor 0 = .ok (.iconst 0, 1) := by decide +kernel
theorem dX11_locksFor_1 : decode cX11_locksFor 1 = .ok (.istore_n 3, 1) := by decide +kernel
theorem dX11_locksFor_2 : decode cX11_locksFor 2 = .ok (.iconst 0, 1) := by decide +kernel
theorem dX11_locksFor_3 : decode cX11_locksFor 3 = .ok (.istore 4, 2) := by decide +kernel
theorem dX11_locksFor_5 : decode cX11_locksFor 5 = .ok (.iload 4, 2) := by decide +kernel
theorem dX11_locksFor_7 : decode cX11_locksFor 7 = .ok (.aload_n 0, 1) := by decide +kernel
theorem dX11_locksFor_8 : decode cX11_locksFor 8 = .ok (.getfield 10, 3) := by decide +kernel
theorem dX11_locksFor_11 : decode cX11_locksFor 11 = .ok (.getfield 256, 3) := by decide +kernel
theorem dX11_locksFor_14 : decode cX11_locksFor 14 = .ok (.if_icmp .ge 42, 3) := by decide +kernel
theorem dX11_locksFor_17 : decode cX11_locksFor 17 = .ok (.aload_n 0, 1) := by decide +kernel
theorem dX11_locksFor_18 : decode cX11_locksFor 18 = .ok (.getfield 10, 3) := by decide +kernel
theorem dX11_locksFor_21 : decode cX11_locksFor 21 = .ok (.iload 4, 2) := by decide +kernel
theorem dX11_locksFor_23 : decode cX11_locksFor 23 = .ok (.invokevirtual 127, 3) := by decide +kernel
theorem dX11_locksFor_26 : decode cX11_locksFor 26 = .ok (.astore 5, 2) := by decide +kernel
theorem dX11_locksFor_28 : decode cX11_locksFor 28 = .ok (.aload 5, 2) := by decide +kernel
theorem dX11_locksFor_30 : decode cX11_locksFor 30 = .ok (.ifnull 20, 3) := by decide +kernel
theorem dX11_locksFor_33 : decode cX11_locksFor 33 = .ok (.aload 5, 2) := by decide +kernel
theorem dX11_locksFor_35 : decode cX11_locksFor 35 = .ok (.aload_n 1, 1) := by decide +kernel
theorem dX11_locksFor_36 : decode cX11_locksFor 36 = .ok (.iload_n 2, 1) := by decide +kernel
theorem dX11_locksFor_37 : decode cX11_locksFor 37 = .ok (.invokevirtual 163, 3) := by decide +kernel
theorem dX11_locksFor_40 : decode cX11_locksFor 40 = .ok (.ifCond .eq 10, 3) := by decide +kernel
theorem dX11_locksFor_43 : decode cX11_locksFor 43 = .ok (.iload_n 3, 1) := by decide +kernel
theorem dX11_locksFor_44 : decode cX11_locksFor 44 = .ok (.iconst 1, 1) := by decide +kernel
theorem dX11_locksFor_45 : decode cX11_locksFor 45 = .ok (.iload 4, 2) := by decide +kernel
theorem dX11_locksFor_47 : decode cX11_locksFor 47 = .ok (.ishl, 1) := by decide +kernel
theorem dX11_locksFor_48 : decode cX11_locksFor 48 = .ok (.ior, 1) := by decide +kernel
theorem dX11_locksFor_49 : decode cX11_locksFor 49 = .ok (.istore_n 3, 1) := by decide +kernel
theorem dX11_locksFor_50 : decode cX11_locksFor 50 = .ok (.iinc 4 1, 3) := by decide +kernel
theorem dX11_locksFor_53 : decode cX11_locksFor 53 = .ok (.goto (-48), 3) := by decide +kernel
theorem dX11_locksFor_56 : decode cX11_locksFor 56 = .ok (.iload_n 3, 1) := by decide +kernel
theorem dX11_locksFor_57 : decode cX11_locksFor 57 = .ok (.ireturn, 1) := by decide +kernel
set_option maxRecDepth 20000 in
theorem ggX11_keysFor_X1_keyAt : GoodIn wsX11_keysFor wsX1_keyAt := goodIn_r _ [8, 9, 10, 104, 105, 106, 107, 108, 109, 110] rfl (by decide +kernel)
set_option maxRecDepth 20000 in
theorem gX11_keysFor_X1_keyAt : GoodIn wsX11_keysFor (wsV RX11 97 RX1 yX1_keyAt wsX1_keyAt) := goodIn_app (goodIn_of _ (by decide +kernel)) ggX11_keysFor_X1_keyAt
set_option maxRecDepth 20000 in
theorem ggX11_keysFor_X9_bentOf : GoodIn wsX11_keysFor wsX9_bentOf := goodIn_r _ [15, 16, 111, 112, 113, 114, 115, 116, 117] rfl (by decide +kernel)
set_option maxRecDepth 20000 in
theorem gX11_keysFor_X9_bentOf : GoodIn wsX11_keysFor (wsV RX11 113 RX9 yX9_bentOf wsX9_bentOf) := goodIn_app (goodIn_of _ (by decide +kernel)) ggX11_keysFor_X9_bentOf
set_option maxRecDepth 20000 in
theorem ggX11_keysFor_X4_letsIn : GoodIn wsX11_keysFor wsX4_letsIn := goodIn_r _ [21, 22, 23, 24, 25, 26, 27, 28, 29, 30, 31, 32, 33, 34, 35, 36, 37, 38, 39, 40, 41, 42, 43, 44, 45, 46, 47, 48, 49, 50, 51, 52, 53, 54, 55, 56, 57, 58, 59, 20, 60, 61, 62, 63, 64, 65, 66, 67, 68, 69, 70, 71, 72, 73, 74, 75, 76, 77, 78, 79, 80, 81, 82, 83, 84, 85, 86, 87, 88, 89, 118, 119, 120, 121, 122, 123, 124, 125, 126, 127, 128, 129] rfl (by decide +kernel)
set_option maxRecDepth 20000 in
theorem gX11_keysFor_X4_letsIn : GoodIn wsX11_keysFor (wsV RX11 163 RX4 yX4_letsIn wsX4_letsIn) := goodIn_app (goodIn_of _ (by decide +kernel)) ggX11_keysFor_X4_letsIn
theorem dX11_keysFor_0 : decode cX11_keysFor 0 = .ok (.iconst 0, 1) := by decide +kernel
theorem dX11_keysFor_1 : decode cX11_keysFor 1 = .ok (.istore_n 2, 1) := by decide +kernel
theorem dX11_keysFor_2 : decode cX11_keysFor 2 = .ok (.iconst 0, 1) := by decide +kernel
theorem dX11_keysFor_3 : decode cX11_keysFor 3 = .ok (.istore_n 3, 1) := by decide +kernel
theorem dX11_keysFor_4 : decode cX11_keysFor 4 = .ok (.iload_n 3, 1) := by decide +kernel
theorem dX11_keysFor_5 : decode cX11_keysFor 5 = .ok (.aload_n 0, 1) := by decide +kernel
theorem dX11_keysFor_6 : decode cX11_keysFor 6 = .ok (.getfield 10, 3) := by decide +kernel
theorem dX11_keysFor_9 : decode cX11_keysFor 9 = .ok (.getfield 234, 3) := by decide +kernel
theorem dX11_keysFor_12 : decode cX11_keysFor 12 = .ok (.if_icmp .ge 47, 3) := by decide +kernel
theorem dX11_keysFor_15 : decode cX11_keysFor 15 = .ok (.aload_n 0, 1) := by decide +kernel
theorem dX11_keysFor_16 : decode cX11_keysFor 16 = .ok (.getfield 10, 3) := by decide +kernel
theorem dX11_keysFor_19 : decode cX11_keysFor 19 = .ok (.iload_n 3, 1) := by decide +kernel
theorem dX11_keysFor_20 : decode cX11_keysFor 20 = .ok (.invokevirtual 97, 3) := by decide +kernel
theorem dX11_keysFor_23 : decode cX11_keysFor 23 = .ok (.astore 4, 2) := by decide +kernel
theorem dX11_keysFor_25 : decode cX11_keysFor 25 = .ok (.aload 4, 2) := by decide +kernel
theorem dX11_keysFor_27 : decode cX11_keysFor 27 = .ok (.ifnull 26, 3) := by decide +kernel
theorem dX11_keysFor_30 : decode cX11_keysFor 30 = .ok (.aload_n 1, 1) := by decide +kernel
theorem dX11_keysFor_31 : decode cX11_keysFor 31 = .ok (.aload 4, 2) := by decide +kernel
theorem dX11_keysFor_33 : decode cX11_keysFor 33 = .ok (.aload_n 0, 1) := by decide +kernel
theorem dX11_keysFor_34 : decode cX11_keysFor 34 = .ok (.getfield 26, 3) := by decide +kernel
theorem dX11_keysFor_37 : decode cX11_keysFor 37 = .ok (.iload_n 3, 1) := by decide +kernel
theorem dX11_keysFor_38 : decode cX11_keysFor 38 = .ok (.invokevirtual 113, 3) := by decide +kernel
theorem dX11_keysFor_41 : decode cX11_keysFor 41 = .ok (.invokevirtual 163, 3) := by decide +kernel
theorem dX11_keysFor_44 : decode cX11_keysFor 44 = .ok (.ifCond .eq 9, 3) := by decide +kernel
theorem dX11_keysFor_47 : decode cX11_keysFor 47 = .ok (.iload_n 2, 1) := by decide +kernel
theorem dX11_keysFor_48 : decode cX11_keysFor 48 = .ok (.iconst 1, 1) := by decide +kernel
theorem dX11_keysFor_49 : decode cX11_keysFor 49 = .ok (.iload_n 3, 1) := by decide +kernel
theorem dX11_keysFor_50 : decode cX11_keysFor 50 = .ok (.ishl, 1) := by decide +kernel
theorem dX11_keysFor_51 : decode cX11_keysFor 51 = .ok (.ior, 1) := by decide +kernel
theorem dX11_keysFor_52 : decode cX11_keysFor 52 = .ok (.istore_n 2, 1) := by decide +kernel
theorem dX11_keysFor_53 : decode cX11_keysFor 53 = .ok (.iinc 3 1, 3) := by decide +kernel
theorem dX11_keysFor_56 : decode cX11_keysFor 56 = .ok (.goto (-52), 3) := by decide +kernel
theorem dX11_keysFor_59 : decode cX11_keysFor 59 = .ok (.iload_n 2, 1) := by decide +kernel
theorem dX11_keysFor_60 : decode cX11_keysFor 60 = .ok (.ireturn, 1) := by decide +kernel
set_option maxRecDepth 20000 in
theorem ggX11_usableKeysFor_X1_lockAt : GoodIn wsX11_usableKeysFor wsX1_lockAt := goodIn_r _ [7, 8, 9, 133, 134, 135, 136, 137, 138, 139] rfl (by decide +kernel)
set_option maxRecDepth 20000 in
theorem gX11_usableKeysFor_X1_lockAt : GoodIn wsX11_usableKeysFor (wsV RX11 127 RX1 yX1_lockAt wsX1_lockAt) := goodIn_app (goodIn_of _ (by decide +kernel)) ggX11_usableKeysFor_X1_lockAt
set_option maxRecDepth 20000 in
theorem ggX11_usableKeysFor_X9_isOpen : GoodIn wsX11_usableKeysFor wsX9_isOpen := goodIn_r _ [14, 15, 140, 141, 142, 143, 144, 145, 146] rfl (by decide +kernel)
set_option maxRecDepth 20000 in
theorem gX11_usableKeysFor_X9_isOpen : GoodIn wsX11_usableKeysFor (wsV RX11 145 RX9 yX9_isOpen wsX9_isOpen) := goodIn_app (goodIn_of _ (by decide +kernel)) ggX11_usableKeysFor_X9_isOpen
set_option maxRecDepth 20000 in
theorem ggX11_usableKeysFor_X11_keysFor : GoodIn wsX11_usableKeysFor wsX11_keysFor := goodIn_r _ [20, 1, 21, 2, 22, 23, 24, 6, 25, 26, 27, 28, 29, 30, 13, 31, 32, 33, 34, 35, 36, 37, 38, 39, 40, 41, 42, 43, 44, 45, 46, 47, 48, 49, 50, 51, 52, 53, 54, 55, 56, 57, 58, 59, 60, 61, 62, 63, 64, 65, 66, 67, 68, 69, 70, 71, 72, 73, 74, 75, 76, 77, 78, 79, 80, 81, 82, 83, 84, 85, 86, 87, 88, 89, 90, 91, 92, 93, 94, 95, 96, 97, 98, 99, 100, 101, 102, 103, 104, 105, 119, 120, 121, 122, 123, 124, 125, 126, 127, 128, 129, 130, 131, 132, 133, 134, 135, 136, 137, 138, 139, 140, 141, 142, 143, 144, 145, 146, 147, 148, 149, 150, 151, 152, 153, 154, 155, 156, 157, 158] rfl (by decide +kernel)
set_option maxRecDepth 20000 in
theorem gX11_usableKeysFor_X11_keysFor : GoodIn wsX11_usableKeysFor (wsV RX11 230 RX11 yX11_keysFor wsX11_keysFor) := goodIn_app (goodIn_of _ (by decide +kernel)) ggX11_usableKeysFor_X11_keysFor
set_option maxRecDepth 20000 in
theorem ggX11_usableKeysFor_X11_brokenKeys : GoodIn wsX11_usableKeysFor wsX11_brokenKeys := goodIn_r _ [109, 1, 21, 110, 111, 112, 19, 113, 2, 114, 115, 116, 13, 117, 118, 119, 120, 121, 122, 123, 124, 125, 126, 127, 128, 129, 130, 131, 132, 133, 134, 135, 136, 137, 138, 139, 140, 141, 142, 143, 144, 145, 146] rfl (by decide +kernel)
set_option maxRecDepth 20000 in
theorem gX11_usableKeysFor_X11_brokenKeys : GoodIn wsX11_usableKeysFor (wsV RX11 361 RX11 yX11_brokenKeys wsX11_brokenKeys) := goodIn_app (goodIn_of _ (by decide +kernel)) ggX11_usableKeysFor_X11_brokenKeys
theorem dX11_usableKeysFor_0 : decode cX11_usableKeysFor 0 = .ok (.aload_n 0, 1) := by decide +kernel
theorem dX11_usableKeysFor_1 : decode cX11_usableKeysFor 1 = .ok (.getfield 10, 3) := by decide +kernel
theorem dX11_usableKeysFor_4 : decode cX11_usableKeysFor 4 = .ok (.iload_n 1, 1) := by decide +kernel
theorem dX11_usableKeysFor_5 : decode cX11_usableKeysFor 5 = .ok (.invokevirtual 127, 3) := by decide +kernel
theorem dX11_usableKeysFor_8 : decode cX11_usableKeysFor 8 = .ok (.astore_n 2, 1) := by decide +kernel
theorem dX11_usableKeysFor_9 : decode cX11_usableKeysFor 9 = .ok (.aload_n 2, 1) := by decide +kernel
theorem dX11_usableKeysFor_10 : decode cX11_usableKeysFor 10 = .ok (.ifnull 14, 3) := by decide +kernel
theorem dX11_usableKeysFor_13 : decode cX11_usableKeysFor 13 = .ok (.aload_n 0, 1) := by decide +kernel
theorem dX11_usableKeysFor_14 : decode cX11_usableKeysFor 14 = .ok (.getfield 26, 3) := by decide +kernel
theorem dX11_usableKeysFor_17 : decode cX11_usableKeysFor 17 = .ok (.iload_n 1, 1) := by decide +kernel
theorem dX11_usableKeysFor_18 : decode cX11_usableKeysFor 18 = .ok (.invokevirtual 145, 3) := by decide +kernel
theorem dX11_usableKeysFor_21 : decode cX11_usableKeysFor 21 = .ok (.ifCond .eq 7, 3) := by decide +kernel
theorem dX11_usableKeysFor_24 : decode cX11_usableKeysFor 24 = .ok (.iconst 0, 1) := by decide +kernel
theorem dX11_usableKeysFor_25 : decode cX11_usableKeysFor 25 = .ok (.goto 15, 3) := by decide +kernel
theorem dX11_usableKeysFor_28 : decode cX11_usableKeysFor 28 = .ok (.aload_n 0, 1) := by decide +kernel
theorem dX11_usableKeysFor_29 : decode cX11_usableKeysFor 29 = .ok (.aload_n 2, 1) := by decide +kernel
theorem dX11_usableKeysFor_30 : decode cX11_usableKeysFor 30 = .ok (.invokevirtual 230, 3) := by decide +kernel
theorem dX11_usableKeysFor_33 : decode cX11_usableKeysFor 33 = .ok (.aload_n 0, 1) := by decide +kernel
theorem dX11_usableKeysFor_34 : decode cX11_usableKeysFor 34 = .ok (.invokevirtual 361, 3) := by decide +kernel
theorem dX11_usableKeysFor_37 : decode cX11_usableKeysFor 37 = .ok (.iconst (-1), 1) := by decide +kernel
theorem dX11_usableKeysFor_38 : decode cX11_usableKeysFor 38 = .ok (.ixor, 1) := by decide +kernel
theorem dX11_usableKeysFor_39 : decode cX11_usableKeysFor 39 = .ok (.iand, 1) := by decide +kernel
theorem dX11_usableKeysFor_40 : decode cX11_usableKeysFor 40 = .ok (.ireturn, 1) := by decide +kernel
set_option maxRecDepth 20000 in
theorem ggX11_areTwins_X1_keyAt : GoodIn wsX11_areTwins wsX1_keyAt := goodIn_r _ [7, 8, 9, 115, 116, 117, 118, 119, 120, 121] rfl (by decide +kernel)
set_option maxRecDepth 20000 in
theorem gX11_areTwins_X1_keyAt : GoodIn wsX11_areTwins (wsV RX11 97 RX1 yX1_keyAt wsX1_keyAt) := goodIn_app (goodIn_of _ (by decide +kernel)) ggX11_areTwins_X1_keyAt
set_option maxRecDepth 20000 in
theorem ggX11_areTwins_X9_bentOf : GoodIn wsX11_areTwins wsX9_bentOf := goodIn_r _ [14, 15, 122, 123, 124, 125, 126, 127, 128] rfl (by decide +kernel)
set_option maxRecDepth 20000 in
theorem gX11_areTwins_X9_bentOf : GoodIn wsX11_areTwins (wsV RX11 113 RX9 yX9_bentOf wsX9_bentOf) := goodIn_app (goodIn_of _ (by decide +kernel)) ggX11_areTwins_X9_bentOf
set_option maxRecDepth 20000 in
theorem ggX11_areTwins_X11_locksFor : GoodIn wsX11_areTwins wsX11_locksFor := goodIn_r _ [20, 1, 21, 22, 23, 24, 6, 25, 26, 27, 28, 29, 30, 31, 32, 33, 34, 35, 36, 37, 38, 39, 40, 41, 42, 43, 44, 45, 46, 47, 48, 49, 50, 51, 52, 53, 54, 55, 56, 57, 58, 59, 60, 61, 62, 63, 64, 65, 66, 67, 68, 69, 70, 71, 72, 73, 74, 75, 76, 77, 78, 79, 80, 81, 82, 83, 84, 85, 86, 87, 88, 89, 90, 91, 92, 93, 94, 95, 96, 97, 98, 99, 100, 101, 102, 103, 104, 105, 106, 107, 108, 109, 110, 111, 112, 113, 114, 115, 116, 117, 118, 119, 120, 121, 129, 130, 131, 132, 133, 134, 135, 136, 137, 138, 139, 140] rfl (by decide +kernel)
set_option maxRecDepth 20000 in
theorem gX11_areTwins_X11_locksFor : GoodIn wsX11_areTwins (wsV RX11 226 RX11 yX11_locksFor wsX11_locksFor) := goodIn_app (goodIn_of _ (by decide +kernel)) ggX11_areTwins_X11_locksFor
theorem dX11_areTwins_0 : decode cX11_areTwins 0 = .ok (.aload_n 0, 1) := by decide +kernel
theorem dX11_areTwins_1 : decode cX11_areTwins 1 = .ok (.getfield 10, 3) := by decide +kernel
theorem dX11_areTwins_4 : decode cX11_areTwins 4 = .ok (.iload_n 1, 1) := by decide +kernel
theorem dX11_areTwins_5 : decode cX11_areTwins 5 = .ok (.invokevirtual 97, 3) := by decide +kernel
theorem dX11_areTwins_8 : decode cX11_areTwins 8 = .ok (.astore_n 3, 1) := by decide +kernel
theorem dX11_areTwins_9 : decode cX11_areTwins 9 = .ok (.aload_n 0, 1) := by decide +kernel
theorem dX11_areTwins_10 : decode cX11_areTwins 10 = .ok (.getfield 10, 3) := by decide +kernel
theorem dX11_areTwins_13 : decode cX11_areTwins 13 = .ok (.iload_n 2, 1) := by decide +kernel
theorem dX11_areTwins_14 : decode cX11_areTwins 14 = .ok (.invokevirtual 97, 3) := by decide +kernel
theorem dX11_areTwins_17 : decode cX11_areTwins 17 = .ok (.astore 4, 2) := by decide +kernel
theorem dX11_areTwins_19 : decode cX11_areTwins 19 = .ok (.aload_n 3, 1) := by decide +kernel
theorem dX11_areTwins_20 : decode cX11_areTwins 20 = .ok (.ifnull 8, 3) := by decide +kernel
theorem dX11_areTwins_23 : decode cX11_areTwins 23 = .ok (.aload 4, 2) := by decide +kernel
theorem dX11_areTwins_25 : decode cX11_areTwins 25 = .ok (.ifnonnull 5, 3) := by decide +kernel
theorem dX11_areTwins_28 : decode cX11_areTwins 28 = .ok (.iconst 0, 1) := by decide +kernel
theorem dX11_areTwins_29 : decode cX11_areTwins 29 = .ok (.ireturn, 1) := by decide +kernel
theorem dX11_areTwins_30 : decode cX11_areTwins 30 = .ok (.aload_n 0, 1) := by decide +kernel
theorem dX11_areTwins_31 : decode cX11_areTwins 31 = .ok (.aload_n 3, 1) := by decide +kernel
theorem dX11_areTwins_32 : decode cX11_areTwins 32 = .ok (.aload_n 0, 1) := by decide +kernel
theorem dX11_areTwins_33 : decode cX11_areTwins 33 = .ok (.getfield 26, 3) := by decide +kernel
theorem dX11_areTwins_36 : decode cX11_areTwins 36 = .ok (.iload_n 1, 1) := by decide +kernel
theorem dX11_areTwins_37 : decode cX11_areTwins 37 = .ok (.invokevirtual 113, 3) := by decide +kernel
theorem dX11_areTwins_40 : decode cX11_areTwins 40 = .ok (.invokevirtual 226, 3) := by decide +kernel
theorem dX11_areTwins_43 : decode cX11_areTwins 43 = .ok (.istore 5, 2) := by decide +kernel
theorem dX11_areTwins_45 : decode cX11_areTwins 45 = .ok (.iload 5, 2) := by decide +kernel
theorem dX11_areTwins_47 : decode cX11_areTwins 47 = .ok (.ifCond .eq 26, 3) := by decide +kernel
theorem dX11_areTwins_50 : decode cX11_areTwins 50 = .ok (.iload 5, 2) := by decide +kernel
theorem dX11_areTwins_52 : decode cX11_areTwins 52 = .ok (.aload_n 0, 1) := by decide +kernel
theorem dX11_areTwins_53 : decode cX11_areTwins 53 = .ok (.aload 4, 2) := by decide +kernel
theorem dX11_areTwins_55 : decode cX11_areTwins 55 = .ok (.aload_n 0, 1) := by decide +kernel
theorem dX11_areTwins_56 : decode cX11_areTwins 56 = .ok (.getfield 26, 3) := by decide +kernel
theorem dX11_areTwins_59 : decode cX11_areTwins 59 = .ok (.iload_n 2, 1) := by decide +kernel
theorem dX11_areTwins_60 : decode cX11_areTwins 60 = .ok (.invokevirtual 113, 3) := by decide +kernel
theorem dX11_areTwins_63 : decode cX11_areTwins 63 = .ok (.invokevirtual 226, 3) := by decide +kernel
theorem dX11_areTwins_66 : decode cX11_areTwins 66 = .ok (.if_icmp .ne 7, 3) := by decide +kernel
theorem dX11_areTwins_69 : decode cX11_areTwins 69 = .ok (.iconst 1, 1) := by decide +kernel
theorem dX11_areTwins_70 : decode cX11_areTwins 70 = .ok (.goto 4, 3) := by decide +kernel
theorem dX11_areTwins_73 : decode cX11_areTwins 73 = .ok (.iconst 0, 1) := by decide +kernel
theorem dX11_areTwins_74 : decode cX11_areTwins 74 = .ok (.ireturn, 1) := by decide +kernel
set_option maxRecDepth 20000 in
theorem ggX11_isCutAsSeen_X1_lockAt : GoodIn wsX11_isCutAsSeen wsX1_lockAt := goodIn_r _ [9, 10, 11, 48, 49, 50, 51, 52, 53, 54] rfl (by decide +kernel)
set_option maxRecDepth 20000 in
theorem gX11_isCutAsSeen_X1_lockAt : GoodIn wsX11_isCutAsSeen (wsV RX11 127 RX1 yX1_lockAt wsX1_lockAt) := goodIn_app (goodIn_of _ (by decide +kernel)) ggX11_isCutAsSeen_X1_lockAt
set_option maxRecDepth 20000 in
theorem ggX11_isCutAsSeen_X4_letsBrass : GoodIn wsX11_isCutAsSeen wsX4_letsBrass := goodIn_r _ [16, 17, 18, 19, 20, 15, 21, 22, 23, 24, 25, 26, 27, 28, 29, 30, 31, 32, 33, 55, 56, 57, 58] rfl (by decide +kernel)
set_option maxRecDepth 20000 in
theorem gX11_isCutAsSeen_X4_letsBrass : GoodIn wsX11_isCutAsSeen (wsV RX11 411 RX4 yX4_letsBrass wsX4_letsBrass) := goodIn_app (goodIn_of _ (by decide +kernel)) ggX11_isCutAsSeen_X4_letsBrass
theorem dX11_isCutAsSeen_0 : decode cX11_isCutAsSeen 0 = .ok (.iconst 0, 1) := by decide +kernel
theorem dX11_isCutAsSeen_1 : decode cX11_isCutAsSeen 1 = .ok (.istore_n 2, 1) := by decide +kernel
theorem dX11_isCutAsSeen_2 : decode cX11_isCutAsSeen 2 = .ok (.iload_n 2, 1) := by decide +kernel
theorem dX11_isCutAsSeen_3 : decode cX11_isCutAsSeen 3 = .ok (.aload_n 0, 1) := by decide +kernel
theorem dX11_isCutAsSeen_4 : decode cX11_isCutAsSeen 4 = .ok (.getfield 88, 3) := by decide +kernel
theorem dX11_isCutAsSeen_7 : decode cX11_isCutAsSeen 7 = .ok (.if_icmp .ge 58, 3) := by decide +kernel
theorem dX11_isCutAsSeen_10 : decode cX11_isCutAsSeen 10 = .ok (.iload_n 2, 1) := by decide +kernel
theorem dX11_isCutAsSeen_11 : decode cX11_isCutAsSeen 11 = .ok (.bipush 6, 2) := by decide +kernel
theorem dX11_isCutAsSeen_13 : decode cX11_isCutAsSeen 13 = .ok (.if_icmp .ge 52, 3) := by decide +kernel
theorem dX11_isCutAsSeen_16 : decode cX11_isCutAsSeen 16 = .ok (.aload_n 0, 1) := by decide +kernel
theorem dX11_isCutAsSeen_17 : decode cX11_isCutAsSeen 17 = .ok (.getfield 10, 3) := by decide +kernel
theorem dX11_isCutAsSeen_20 : decode cX11_isCutAsSeen 20 = .ok (.aload_n 0, 1) := by decide +kernel
theorem dX11_isCutAsSeen_21 : decode cX11_isCutAsSeen 21 = .ok (.getfield 41, 3) := by decide +kernel
theorem dX11_isCutAsSeen_24 : decode cX11_isCutAsSeen 24 = .ok (.iload_n 2, 1) := by decide +kernel
theorem dX11_isCutAsSeen_25 : decode cX11_isCutAsSeen 25 = .ok (.iaload, 1) := by decide +kernel
theorem dX11_isCutAsSeen_26 : decode cX11_isCutAsSeen 26 = .ok (.invokevirtual 127, 3) := by decide +kernel
theorem dX11_isCutAsSeen_29 : decode cX11_isCutAsSeen 29 = .ok (.astore_n 3, 1) := by decide +kernel
theorem dX11_isCutAsSeen_30 : decode cX11_isCutAsSeen 30 = .ok (.aload_n 3, 1) := by decide +kernel
theorem dX11_isCutAsSeen_31 : decode cX11_isCutAsSeen 31 = .ok (.ifnull 28, 3) := by decide +kernel
theorem dX11_isCutAsSeen_34 : decode cX11_isCutAsSeen 34 = .ok (.aload_n 3, 1) := by decide +kernel
theorem dX11_isCutAsSeen_35 : decode cX11_isCutAsSeen 35 = .ok (.iload_n 1, 1) := by decide +kernel
theorem dX11_isCutAsSeen_36 : decode cX11_isCutAsSeen 36 = .ok (.invokevirtual 411, 3) := by decide +kernel
theorem dX11_isCutAsSeen_39 : decode cX11_isCutAsSeen 39 = .ok (.aload_n 0, 1) := by decide +kernel
theorem dX11_isCutAsSeen_40 : decode cX11_isCutAsSeen 40 = .ok (.getfield 45, 3) := by decide +kernel
theorem dX11_isCutAsSeen_43 : decode cX11_isCutAsSeen 43 = .ok (.iload_n 2, 1) := by decide +kernel
theorem dX11_isCutAsSeen_44 : decode cX11_isCutAsSeen 44 = .ok (.iaload, 1) := by decide +kernel
theorem dX11_isCutAsSeen_45 : decode cX11_isCutAsSeen 45 = .ok (.iconst 1, 1) := by decide +kernel
theorem dX11_isCutAsSeen_46 : decode cX11_isCutAsSeen 46 = .ok (.if_icmp .ne 7, 3) := by decide +kernel
theorem dX11_isCutAsSeen_49 : decode cX11_isCutAsSeen 49 = .ok (.iconst 1, 1) := by decide +kernel
theorem dX11_isCutAsSeen_50 : decode cX11_isCutAsSeen 50 = .ok (.goto 4, 3) := by decide +kernel
theorem dX11_isCutAsSeen_53 : decode cX11_isCutAsSeen 53 = .ok (.iconst 0, 1) := by decide +kernel
theorem dX11_isCutAsSeen_54 : decode cX11_isCutAsSeen 54 = .ok (.if_icmp .eq 5, 3) := by decide +kernel
theorem dX11_isCutAsSeen_57 : decode cX11_isCutAsSeen 57 = .ok (.iconst 0, 1) := by decide +kernel
theorem dX11_isCutAsSeen_58 : decode cX11_isCutAsSeen 58 = .ok (.ireturn, 1) := by decide +kernel
theorem dX11_isCutAsSeen_59 : decode cX11_isCutAsSeen 59 = .ok (.iinc 2 1, 3) := by decide +kernel
theorem dX11_isCutAsSeen_62 : decode cX11_isCutAsSeen 62 = .ok (.goto (-60), 3) := by decide +kernel
theorem dX11_isCutAsSeen_65 : decode cX11_isCutAsSeen 65 = .ok (.iconst 1, 1) := by decide +kernel
theorem dX11_isCutAsSeen_66 : decode cX11_isCutAsSeen 66 = .ok (.ireturn, 1) := by decide +kernel
set_option maxRecDepth 20000 in
theorem ggX11_isKeyAsSeen_X1_lockAt : GoodIn wsX11_isKeyAsSeen wsX1_lockAt := goodIn_r _ [9, 10, 11, 99, 100, 101, 102, 103, 104, 105] rfl (by decide +kernel)
set_option maxRecDepth 20000 in
theorem gX11_isKeyAsSeen_X1_lockAt : GoodIn wsX11_isKeyAsSeen (wsV RX11 127 RX1 yX1_lockAt wsX1_lockAt) := goodIn_app (goodIn_of _ (by decide +kernel)) ggX11_isKeyAsSeen_X1_lockAt
set_option maxRecDepth 20000 in
theorem ggX11_isKeyAsSeen_X4_letsIn : GoodIn wsX11_isKeyAsSeen wsX4_letsIn := goodIn_r _ [16, 17, 18, 19, 20, 21, 22, 23, 24, 25, 26, 27, 28, 29, 30, 31, 32, 33, 34, 35, 36, 37, 38, 39, 40, 41, 42, 43, 44, 45, 46, 47, 48, 49, 50, 51, 52, 53, 54, 15, 55, 56, 57, 58, 59, 60, 61, 62, 63, 64, 65, 66, 67, 68, 69, 70, 71, 72, 73, 74, 75, 76, 77, 78, 79, 80, 81, 82, 83, 84, 106, 107, 108, 109, 110, 111, 112, 113, 114, 115, 116, 117] rfl (by decide +kernel)
set_option maxRecDepth 20000 in
theorem gX11_isKeyAsSeen_X4_letsIn : GoodIn wsX11_isKeyAsSeen (wsV RX11 163 RX4 yX4_letsIn wsX4_letsIn) := goodIn_app (goodIn_of _ (by decide +kernel)) ggX11_isKeyAsSeen_X4_letsIn
theorem dX11_isKeyAsSeen_0 : decode cX11_isKeyAsSeen 0 = .ok (.iconst 0, 1) := by decide +kernel
theorem dX11_isKeyAsSeen_1 : decode cX11_isKeyAsSeen 1 = .ok (.istore_n 3, 1) := by decide +kernel
theorem dX11_isKeyAsSeen_2 : decode cX11_isKeyAsSeen 2 = .ok (.iload_n 3, 1) := by decide +kernel
theorem dX11_isKeyAsSeen_3 : decode cX11_isKeyAsSeen 3 = .ok (.aload_n 0, 1) := by decide +kernel
theorem dX11_isKeyAsSeen_4 : decode cX11_isKeyAsSeen 4 = .ok (.getfield 88, 3) := by decide +kernel
theorem dX11_isKeyAsSeen_7 : decode cX11_isKeyAsSeen 7 = .ok (.if_icmp .ge 62, 3) := by decide +kernel
theorem dX11_isKeyAsSeen_10 : decode cX11_isKeyAsSeen 10 = .ok (.iload_n 3, 1) := by decide +kernel
theorem dX11_isKeyAsSeen_11 : decode cX11_isKeyAsSeen 11 = .ok (.bipush 6, 2) := by decide +kernel
theorem dX11_isKeyAsSeen_13 : decode cX11_isKeyAsSeen 13 = .ok (.if_icmp .ge 56, 3) := by decide +kernel
theorem dX11_isKeyAsSeen_16 : decode cX11_isKeyAsSeen 16 = .ok (.aload_n 0, 1) := by decide +kernel
theorem dX11_isKeyAsSeen_17 : decode cX11_isKeyAsSeen 17 = .ok (.getfield 10, 3) := by decide +kernel
theorem dX11_isKeyAsSeen_20 : decode cX11_isKeyAsSeen 20 = .ok (.aload_n 0, 1) := by decide +kernel
theorem dX11_isKeyAsSeen_21 : decode cX11_isKeyAsSeen 21 = .ok (.getfield 41, 3) := by decide +kernel
theorem dX11_isKeyAsSeen_24 : decode cX11_isKeyAsSeen 24 = .ok (.iload_n 3, 1) := by decide +kernel
theorem dX11_isKeyAsSeen_25 : decode cX11_isKeyAsSeen 25 = .ok (.iaload, 1) := by decide +kernel
theorem dX11_isKeyAsSeen_26 : decode cX11_isKeyAsSeen 26 = .ok (.invokevirtual 127, 3) := by decide +kernel
theorem dX11_isKeyAsSeen_29 : decode cX11_isKeyAsSeen 29 = .ok (.astore 4, 2) := by decide +kernel
theorem dX11_isKeyAsSeen_31 : decode cX11_isKeyAsSeen 31 = .ok (.aload 4, 2) := by decide +kernel
theorem dX11_isKeyAsSeen_33 : decode cX11_isKeyAsSeen 33 = .ok (.ifnull 30, 3) := by decide +kernel
theorem dX11_isKeyAsSeen_36 : decode cX11_isKeyAsSeen 36 = .ok (.aload 4, 2) := by decide +kernel
theorem dX11_isKeyAsSeen_38 : decode cX11_isKeyAsSeen 38 = .ok (.aload_n 1, 1) := by decide +kernel
theorem dX11_isKeyAsSeen_39 : decode cX11_isKeyAsSeen 39 = .ok (.iload_n 2, 1) := by decide +kernel
theorem dX11_isKeyAsSeen_40 : decode cX11_isKeyAsSeen 40 = .ok (.invokevirtual 163, 3) := by decide +kernel
theorem dX11_isKeyAsSeen_43 : decode cX11_isKeyAsSeen 43 = .ok (.aload_n 0, 1) := by decide +kernel
theorem dX11_isKeyAsSeen_44 : decode cX11_isKeyAsSeen 44 = .ok (.getfield 45, 3) := by decide +kernel
theorem dX11_isKeyAsSeen_47 : decode cX11_isKeyAsSeen 47 = .ok (.iload_n 3, 1) := by decide +kernel
theorem dX11_isKeyAsSeen_48 : decode cX11_isKeyAsSeen 48 = .ok (.iaload, 1) := by decide +kernel
theorem dX11_isKeyAsSeen_49 : decode cX11_isKeyAsSeen 49 = .ok (.iconst 1, 1) := by decide +kernel
theorem dX11_isKeyAsSeen_50 : decode cX11_isKeyAsSeen 50 = .ok (.if_icmp .ne 7, 3) := by decide +kernel
theorem dX11_isKeyAsSeen_53 : decode cX11_isKeyAsSeen 53 = .ok (.iconst 1, 1) := by decide +kernel
theorem dX11_isKeyAsSeen_54 : decode cX11_isKeyAsSeen 54 = .ok (.goto 4, 3) := by decide +kernel
theorem dX11_isKeyAsSeen_57 : decode cX11_isKeyAsSeen 57 = .ok (.iconst 0, 1) := by decide +kernel
theorem dX11_isKeyAsSeen_58 : decode cX11_isKeyAsSeen 58 = .ok (.if_icmp .eq 5, 3) := by decide +kernel
theorem dX11_isKeyAsSeen_61 : decode cX11_isKeyAsSeen 61 = .ok (.iconst 0, 1) := by decide +kernel
theorem dX11_isKeyAsSeen_62 : decode cX11_isKeyAsSeen 62 = .ok (.ireturn, 1) := by decide +kernel
theorem dX11_isKeyAsSeen_63 : decode cX11_isKeyAsSeen 63 = .ok (.iinc 3 1, 3) := by decide +kernel
theorem dX11_isKeyAsSeen_66 : decode cX11_isKeyAsSeen 66 = .ok (.goto (-64), 3) := by decide +kernel
theorem dX11_isKeyAsSeen_69 : decode cX11_isKeyAsSeen 69 = .ok (.iconst 1, 1) := by decide +kernel
theorem dX11_isKeyAsSeen_70 : decode cX11_isKeyAsSeen 70 = .ok (.ireturn, 1) := by decide +kernel
set_option maxRecDepth 20000 in
theorem ggX11_brokenKeys_X11_isBroken : GoodIn wsX11_brokenKeys wsX11_isBroken := goodIn_r _ [7, 8, 9, 10, 11, 12, 13, 14, 15, 16, 17, 18, 19, 20, 21, 22, 23, 24, 25, 26, 27, 28, 36, 37, 38, 39, 40, 41, 42] rfl (by decide +kernel)
set_option maxRecDepth 20000 in
theorem gX11_brokenKeys_X11_isBroken : GoodIn wsX11_brokenKeys (wsV RX11 123 RX11 yX11_isBroken wsX11_isBroken) := goodIn_app (goodIn_of _ (by decide +kernel)) ggX11_brokenKeys_X11_isBroken
theorem dX11_brokenKeys_0 : decode cX11_brokenKeys 0 = .ok (.iconst 0, 1) := by decide +kernel
theorem dX11_brokenKeys_1 : decode cX11_brokenKeys 1 = .ok (.istore_n 1, 1) := by decide +kernel
theorem dX11_brokenKeys_2 : decode cX11_brokenKeys 2 = .ok (.iconst 0, 1) := by decide +kernel
theorem dX11_brokenKeys_3 : decode cX11_brokenKeys 3 = .ok (.istore_n 2, 1) := by decide +kernel
theorem dX11_brokenKeys_4 : decode cX11_brokenKeys 4 = .ok (.iload_n 2, 1) := by decide +kernel
theorem dX11_brokenKeys_5 : decode cX11_brokenKeys 5 = .ok (.aload_n 0, 1) := by decide +kernel
theorem dX11_brokenKeys_6 : decode cX11_brokenKeys 6 = .ok (.getfield 10, 3) := by decide +kernel
theorem dX11_brokenKeys_9 : decode cX11_brokenKeys 9 = .ok (.getfield 234, 3) := by decide +kernel
theorem dX11_brokenKeys_12 : decode cX11_brokenKeys 12 = .ok (.if_icmp .ge 23, 3) := by decide +kernel
theorem dX11_brokenKeys_15 : decode cX11_brokenKeys 15 = .ok (.aload_n 0, 1) := by decide +kernel
theorem dX11_brokenKeys_16 : decode cX11_brokenKeys 16 = .ok (.iload_n 2, 1) := by decide +kernel
theorem dX11_brokenKeys_17 : decode cX11_brokenKeys 17 = .ok (.invokevirtual 123, 3) := by decide +kernel
theorem dX11_brokenKeys_20 : decode cX11_brokenKeys 20 = .ok (.ifCond .eq 9, 3) := by decide +kernel
theorem dX11_brokenKeys_23 : decode cX11_brokenKeys 23 = .ok (.iload_n 1, 1) := by decide +kernel
theorem dX11_brokenKeys_24 : decode cX11_brokenKeys 24 = .ok (.iconst 1, 1) := by decide +kernel
theorem dX11_brokenKeys_25 : decode cX11_brokenKeys 25 = .ok (.iload_n 2, 1) := by decide +kernel
theorem dX11_brokenKeys_26 : decode cX11_brokenKeys 26 = .ok (.ishl, 1) := by decide +kernel
theorem dX11_brokenKeys_27 : decode cX11_brokenKeys 27 = .ok (.ior, 1) := by decide +kernel
theorem dX11_brokenKeys_28 : decode cX11_brokenKeys 28 = .ok (.istore_n 1, 1) := by decide +kernel
theorem dX11_brokenKeys_29 : decode cX11_brokenKeys 29 = .ok (.iinc 2 1, 3) := by decide +kernel
theorem dX11_brokenKeys_32 : decode cX11_brokenKeys 32 = .ok (.goto (-28), 3) := by decide +kernel
theorem dX11_brokenKeys_35 : decode cX11_brokenKeys 35 = .ok (.iload_n 1, 1) := by decide +kernel
theorem dX11_brokenKeys_36 : decode cX11_brokenKeys 36 = .ok (.ireturn, 1) := by decide +kernel
set_option maxRecDepth 20000 in
theorem ggX11_latestMinute_X9_minuteOf : GoodIn wsX11_latestMinute wsX9_minuteOf := goodIn_r _ [12, 13, 35, 36, 37, 38, 39, 40, 41] rfl (by decide +kernel)
set_option maxRecDepth 20000 in
theorem gX11_latestMinute_X9_minuteOf : GoodIn wsX11_latestMinute (wsV RX11 154 RX9 yX9_minuteOf wsX9_minuteOf) := goodIn_app (goodIn_of _ (by decide +kernel)) ggX11_latestMinute_X9_minuteOf
theorem dX11_latestMinute_0 : decode cX11_latestMinute 0 = .ok (.iconst 0, 1) := by decide +kernel
theorem dX11_latestMinute_1 : decode cX11_latestMinute 1 = .ok (.istore_n 1, 1) := by decide +kernel
theorem dX11_latestMinute_2 : decode cX11_latestMinute 2 = .ok (.iconst 0, 1) := by decide +kernel
theorem dX11_latestMinute_3 : decode cX11_latestMinute 3 = .ok (.istore_n 2, 1) := by decide +kernel
theorem dX11_latestMinute_4 : decode cX11_latestMinute 4 = .ok (.iload_n 2, 1) := by decide +kernel
theorem dX11_latestMinute_5 : decode cX11_latestMinute 5 = .ok (.aload_n 0, 1) := by decide +kernel
theorem dX11_latestMinute_6 : decode cX11_latestMinute 6 = .ok (.getfield 10, 3) := by decide +kernel
theorem dX11_latestMinute_9 : decode cX11_latestMinute 9 = .ok (.getfield 262, 3) := by decide +kernel
theorem dX11_latestMinute_12 : decode cX11_latestMinute 12 = .ok (.if_icmp .ge 22, 3) := by decide +kernel
theorem dX11_latestMinute_15 : decode cX11_latestMinute 15 = .ok (.iload_n 1, 1) := by decide +kernel
theorem dX11_latestMinute_16 : decode cX11_latestMinute 16 = .ok (.aload_n 0, 1) := by decide +kernel
theorem dX11_latestMinute_17 : decode cX11_latestMinute 17 = .ok (.getfield 26, 3) := by decide +kernel
theorem dX11_latestMinute_20 : decode cX11_latestMinute 20 = .ok (.iload_n 2, 1) := by decide +kernel
theorem dX11_latestMinute_21 : decode cX11_latestMinute 21 = .ok (.invokevirtual 154, 3) := by decide +kernel
theorem dX11_latestMinute_24 : decode cX11_latestMinute 24 = .ok (.invokestatic 414, 3) := by decide +kernel
theorem dX11_latestMinute_27 : decode cX11_latestMinute 27 = .ok (.istore_n 1, 1) := by decide +kernel
theorem dX11_latestMinute_28 : decode cX11_latestMinute 28 = .ok (.iinc 2 1, 3) := by decide +kernel
theorem dX11_latestMinute_31 : decode cX11_latestMinute 31 = .ok (.goto (-27), 3) := by decide +kernel
theorem dX11_latestMinute_34 : decode cX11_latestMinute 34 = .ok (.iload_n 1, 1) := by decide +kernel
theorem dX11_latestMinute_35 : decode cX11_latestMinute 35 = .ok (.ireturn, 1) := by decide +kernel
set_option maxRecDepth 20000 in
theorem ggX11_racksThere_X7_isMissing : GoodIn wsX11_racksThere wsX7_isMissing := goodIn_r _ [6, 7, 22, 23, 24] rfl (by decide +kernel)
set_option maxRecDepth 20000 in
theorem gX11_racksThere_X7_isMissing : GoodIn wsX11_racksThere (wsV RX11 310 RX7 yX7_isMissing wsX7_isMissing) := goodIn_app (goodIn_of _ (by decide +kernel)) ggX11_racksThere_X7_isMissing
theorem dX11_racksThere_0 : decode cX11_racksThere 0 = .ok (.iconst 0, 1) := by decide +kernel
theorem dX11_racksThere_1 : decode cX11_racksThere 1 = .ok (.istore_n 1, 1) := by decide +kernel
theorem dX11_racksThere_2 : decode cX11_racksThere 2 = .ok (.iconst 0, 1) := by decide +kernel
theorem dX11_racksThere_3 : decode cX11_racksThere 3 = .ok (.istore_n 2, 1) := by decide +kernel
theorem dX11_racksThere_4 : decode cX11_racksThere 4 = .ok (.iload_n 2, 1) := by decide +kernel
theorem dX11_racksThere_5 : decode cX11_racksThere 5 = .ok (.iconst 4, 1) := by decide +kernel
theorem dX11_racksThere_6 : decode cX11_racksThere 6 = .ok (.if_icmp .ge 24, 3) := by decide +kernel
theorem dX11_racksThere_9 : decode cX11_racksThere 9 = .ok (.aload_n 0, 1) := by decide +kernel
theorem dX11_racksThere_10 : decode cX11_racksThere 10 = .ok (.getfield 57, 3) := by decide +kernel
theorem dX11_racksThere_13 : decode cX11_racksThere 13 = .ok (.iload_n 2, 1) := by decide +kernel
theorem dX11_racksThere_14 : decode cX11_racksThere 14 = .ok (.aaload, 1) := by decide +kernel
theorem dX11_racksThere_15 : decode cX11_racksThere 15 = .ok (.invokevirtual 310, 3) := by decide +kernel
theorem dX11_racksThere_18 : decode cX11_racksThere 18 = .ok (.ifCond .ne 6, 3) := by decide +kernel
theorem dX11_racksThere_21 : decode cX11_racksThere 21 = .ok (.iinc 1 1, 3) := by decide +kernel
theorem dX11_racksThere_24 : decode cX11_racksThere 24 = .ok (.iinc 2 1, 3) := by decide +kernel
theorem dX11_racksThere_27 : decode cX11_racksThere 27 = .ok (.goto (-23), 3) := by decide +kernel
theorem dX11_racksThere_30 : decode cX11_racksThere 30 = .ok (.iload_n 1, 1) := by decide +kernel
theorem dX11_racksThere_31 : decode cX11_racksThere 31 = .ok (.ireturn, 1) := by decide +kernel
theorem dX11_rackAt_0 : decode cX11_rackAt 0 = .ok (.iload_n 1, 1) := by decide +kernel
theorem dX11_rackAt_1 : decode cX11_rackAt 1 = .ok (.ifCond .lt 17, 3) := by decide +kernel
theorem dX11_rackAt_4 : decode cX11_rackAt 4 = .ok (.iload_n 1, 1) := by decide +kernel
theorem dX11_rackAt_5 : decode cX11_rackAt 5 = .ok (.iconst 4, 1) := by decide +kernel
theorem dX11_rackAt_6 : decode cX11_rackAt 6 = .ok (.if_icmp .ge 12, 3) := by decide +kernel
theorem dX11_rackAt_9 : decode cX11_rackAt 9 = .ok (.aload_n 0, 1) := by decide +kernel
theorem dX11_rackAt_10 : decode cX11_rackAt 10 = .ok (.getfield 57, 3) := by decide +kernel
theorem dX11_rackAt_13 : decode cX11_rackAt 13 = .ok (.iload_n 1, 1) := by decide +kernel
theorem dX11_rackAt_14 : decode cX11_rackAt 14 = .ok (.aaload, 1) := by decide +kernel
theorem dX11_rackAt_15 : decode cX11_rackAt 15 = .ok (.goto 4, 3) := by decide +kernel
theorem dX11_rackAt_18 : decode cX11_rackAt 18 = .ok (.aconst_null, 1) := by decide +kernel
theorem dX11_rackAt_19 : decode cX11_rackAt 19 = .ok (.areturn, 1) := by decide +kernel
theorem dX11_isLane_0 : decode cX11_isLane 0 = .ok (.iload_n 0, 1) := by decide +kernel
theorem dX11_isLane_1 : decode cX11_isLane 1 = .ok (.ifCond .lt 12, 3) := by decide +kernel
theorem dX11_isLane_4 : decode cX11_isLane 4 = .ok (.iload_n 0, 1) := by decide +kernel
theorem dX11_isLane_5 : decode cX11_isLane 5 = .ok (.iconst 4, 1) := by decide +kernel
theorem dX11_isLane_6 : decode cX11_isLane 6 = .ok (.if_icmp .gt 7, 3) := by decide +kernel
theorem dX11_isLane_9 : decode cX11_isLane 9 = .ok (.iconst 1, 1) := by decide +kernel
theorem dX11_isLane_10 : decode cX11_isLane 10 = .ok (.goto 4, 3) := by decide +kernel
theorem dX11_isLane_13 : decode cX11_isLane 13 = .ok (.iconst 0, 1) := by decide +kernel
theorem dX11_isLane_14 : decode cX11_isLane 14 = .ok (.ireturn, 1) := by decide +kernel
theorem dX11_minutesBetween_0 : decode cX11_minutesBetween 0 = .ok (.iload_n 0, 1) := by decide +kernel
theorem dX11_minutesBetween_1 : decode cX11_minutesBetween 1 = .ok (.bipush 10, 2) := by decide +kernel
theorem dX11_minutesBetween_3 : decode cX11_minutesBetween 3 = .ok (.idiv, 1) := by decide +kernel
theorem dX11_minutesBetween_4 : decode cX11_minutesBetween 4 = .ok (.iload_n 1, 1) := by decide +kernel
theorem dX11_minutesBetween_5 : decode cX11_minutesBetween 5 = .ok (.bipush 10, 2) := by decide +kernel
theorem dX11_minutesBetween_7 : decode cX11_minutesBetween 7 = .ok (.idiv, 1) := by decide +kernel
theorem dX11_minutesBetween_8 : decode cX11_minutesBetween 8 = .ok (.isub, 1) := by decide +kernel
theorem dX11_minutesBetween_9 : decode cX11_minutesBetween 9 = .ok (.invokestatic 417, 3) := by decide +kernel
theorem dX11_minutesBetween_12 : decode cX11_minutesBetween 12 = .ok (.iload_n 0, 1) := by decide +kernel
theorem dX11_minutesBetween_13 : decode cX11_minutesBetween 13 = .ok (.bipush 10, 2) := by decide +kernel
theorem dX11_minutesBetween_15 : decode cX11_minutesBetween 15 = .ok (.irem, 1) := by decide +kernel
theorem dX11_minutesBetween_16 : decode cX11_minutesBetween 16 = .ok (.iload_n 1, 1) := by decide +kernel
theorem dX11_minutesBetween_17 : decode cX11_minutesBetween 17 = .ok (.bipush 10, 2) := by decide +kernel
theorem dX11_minutesBetween_19 : decode cX11_minutesBetween 19 = .ok (.irem, 1) := by decide +kernel
theorem dX11_minutesBetween_20 : decode cX11_minutesBetween 20 = .ok (.isub, 1) := by decide +kernel
theorem dX11_minutesBetween_21 : decode cX11_minutesBetween 21 = .ok (.invokestatic 417, 3) := by decide +kernel
theorem dX11_minutesBetween_24 : decode cX11_minutesBetween 24 = .ok (.iadd, 1) := by decide +kernel
theorem dX11_minutesBetween_25 : decode cX11_minutesBetween 25 = .ok (.ireturn, 1) := by decide +kernel
theorem dX11_choose_0 : decode cX11_choose 0 = .ok (.iload_n 0, 1) := by decide +kernel
theorem dX11_choose_1 : decode cX11_choose 1 = .ok (.ifCond .lt 32, 3) := by decide +kernel
theorem dX11_choose_4 : decode cX11_choose 4 = .ok (.iload_n 0, 1) := by decide +kernel
theorem dX11_choose_5 : decode cX11_choose 5 = .ok (.bipush 7, 2) := by decide +kernel
theorem dX11_choose_7 : decode cX11_choose 7 = .ok (.if_icmp .gt 26, 3) := by decide +kernel
theorem dX11_choose_10 : decode cX11_choose 10 = .ok (.iload_n 1, 1) := by decide +kernel
theorem dX11_choose_11 : decode cX11_choose 11 = .ok (.ifCond .lt 22, 3) := by decide +kernel
theorem dX11_choose_14 : decode cX11_choose 14 = .ok (.iload_n 1, 1) := by decide +kernel
theorem dX11_choose_15 : decode cX11_choose 15 = .ok (.bipush 7, 2) := by decide +kernel
theorem dX11_choose_17 : decode cX11_choose 17 = .ok (.if_icmp .gt 16, 3) := by decide +kernel
theorem dX11_choose_20 : decode cX11_choose 20 = .ok (.getstatic 420, 3) := by decide +kernel
theorem dX11_choose_23 : decode cX11_choose 23 = .ok (.iload_n 0, 1) := by decide +kernel
theorem dX11_choose_24 : decode cX11_choose 24 = .ok (.bipush 8, 2) := by decide +kernel
theorem dX11_choose_26 : decode cX11_choose 26 = .ok (.imul, 1) := by decide +kernel
theorem dX11_choose_27 : decode cX11_choose 27 = .ok (.iload_n 1, 1) := by decide +kernel
theorem dX11_choose_28 : decode cX11_choose 28 = .ok (.iadd, 1) := by decide +kernel
theorem dX11_choose_29 : decode cX11_choose 29 = .ok (.iaload, 1) := by decide +kernel
theorem dX11_choose_30 : decode cX11_choose 30 = .ok (.goto 4, 3) := by decide +kernel
theorem dX11_choose_33 : decode cX11_choose 33 = .ok (.iconst 0, 1) := by decide +kernel
theorem dX11_choose_34 : decode cX11_choose 34 = .ok (.ireturn, 1) := by decide +kernel
set_option maxRecDepth 20000 in
theorem ggX11_lowest_X11_commonOf : GoodIn wsX11_lowest wsX11_commonOf := goodIn_r _ [8] rfl (by decide +kernel)
set_option maxRecDepth 20000 in
theorem gX11_lowest_X11_commonOf : GoodIn wsX11_lowest (va_wsS RX11 426 yX11_commonOf wsX11_commonOf) := goodIn_app (goodIn_of _ (by decide +kernel)) ggX11_lowest_X11_commonOf
theorem dX11_lowest_0 : decode cX11_lowest 0 = .ok (.lload_n 0, 1) := by decide +kernel
theorem dX11_lowest_1 : decode cX11_lowest 1 = .ok (.invokestatic 423, 3) := by decide +kernel
theorem dX11_lowest_4 : decode cX11_lowest 4 = .ok (.lload_n 2, 1) := by decide +kernel
theorem dX11_lowest_5 : decode cX11_lowest 5 = .ok (.invokestatic 426, 3) := by decide +kernel
theorem dX11_lowest_8 : decode cX11_lowest 8 = .ok (.lstore 5, 2) := by decide +kernel
theorem dX11_lowest_10 : decode cX11_lowest 10 = .ok (.lload 5, 2) := by decide +kernel
theorem dX11_lowest_12 : decode cX11_lowest 12 = .ok (.lconst 0, 1) := by decide +kernel
theorem dX11_lowest_13 : decode cX11_lowest 13 = .ok (.lcmp, 1) := by decide +kernel
theorem dX11_lowest_14 : decode cX11_lowest 14 = .ok (.ifCond .gt 5, 3) := by decide +kernel
theorem dX11_lowest_17 : decode cX11_lowest 17 = .ok (.lconst 0, 1) := by decide +kernel
theorem dX11_lowest_18 : decode cX11_lowest 18 = .ok (.lreturn, 1) := by decide +kernel
theorem dX11_lowest_19 : decode cX11_lowest 19 = .ok (.iload 4, 2) := by decide +kernel
theorem dX11_lowest_21 : decode cX11_lowest 21 = .ok (.ifCond .ne 10, 3) := by decide +kernel
theorem dX11_lowest_24 : decode cX11_lowest 24 = .ok (.lload_n 0, 1) := by decide +kernel
theorem dX11_lowest_25 : decode cX11_lowest 25 = .ok (.lload 5, 2) := by decide +kernel
theorem dX11_lowest_27 : decode cX11_lowest 27 = .ok (.ldiv, 1) := by decide +kernel
theorem dX11_lowest_28 : decode cX11_lowest 28 = .ok (.goto 7, 3) := by decide +kernel
theorem dX11_lowest_31 : decode cX11_lowest 31 = .ok (.lload_n 2, 1) := by decide +kernel
theorem dX11_lowest_32 : decode cX11_lowest 32 = .ok (.lload 5, 2) := by decide +kernel
theorem dX11_lowest_34 : decode cX11_lowest 34 = .ok (.ldiv, 1) := by decide +kernel
theorem dX11_lowest_35 : decode cX11_lowest 35 = .ok (.lreturn, 1) := by decide +kernel
theorem dX11_commonOf_0 : decode cX11_commonOf 0 = .ok (.lload_n 0, 1) := by decide +kernel
theorem dX11_commonOf_1 : decode cX11_commonOf 1 = .ok (.lstore 4, 2) := by decide +kernel
theorem dX11_commonOf_3 : decode cX11_commonOf 3 = .ok (.lload_n 2, 1) := by decide +kernel
theorem dX11_commonOf_4 : decode cX11_commonOf 4 = .ok (.lstore 6, 2) := by decide +kernel
theorem dX11_commonOf_6 : decode cX11_commonOf 6 = .ok (.iconst 0, 1) := by decide +kernel
theorem dX11_commonOf_7 : decode cX11_commonOf 7 = .ok (.istore 8, 2) := by decide +kernel
theorem dX11_commonOf_9 : decode cX11_commonOf 9 = .ok (.iload 8, 2) := by decide +kernel
theorem dX11_commonOf_11 : decode cX11_commonOf 11 = .ok (.sipush 200, 3) := by decide +kernel
theorem dX11_commonOf_14 : decode cX11_commonOf 14 = .ok (.if_icmp .ge 31, 3) := by decide +kernel
theorem dX11_commonOf_17 : decode cX11_commonOf 17 = .ok (.lload 6, 2) := by decide +kernel
theorem dX11_commonOf_19 : decode cX11_commonOf 19 = .ok (.lconst 0, 1) := by decide +kernel
theorem dX11_commonOf_20 : decode cX11_commonOf 20 = .ok (.lcmp, 1) := by decide +kernel
theorem dX11_commonOf_21 : decode cX11_commonOf 21 = .ok (.ifCond .eq 24, 3) := by decide +kernel
theorem dX11_commonOf_24 : decode cX11_commonOf 24 = .ok (.lload 4, 2) := by decide +kernel
theorem dX11_commonOf_26 : decode cX11_commonOf 26 = .ok (.lload 6, 2) := by decide +kernel
theorem dX11_commonOf_28 : decode cX11_commonOf 28 = .ok (.lrem, 1) := by decide +kernel
theorem dX11_commonOf_29 : decode cX11_commonOf 29 = .ok (.lstore 9, 2) := by decide +kernel
theorem dX11_commonOf_31 : decode cX11_commonOf 31 = .ok (.lload 6, 2) := by decide +kernel
theorem dX11_commonOf_33 : decode cX11_commonOf 33 = .ok (.lstore 4, 2) := by decide +kernel
theorem dX11_commonOf_35 : decode cX11_commonOf 35 = .ok (.lload 9, 2) := by decide +kernel
theorem dX11_commonOf_37 : decode cX11_commonOf 37 = .ok (.lstore 6, 2) := by decide +kernel
theorem dX11_commonOf_39 : decode cX11_commonOf 39 = .ok (.iinc 8 1, 3) := by decide +kernel
theorem dX11_commonOf_42 : decode cX11_commonOf 42 = .ok (.goto (-33), 3) := by decide +kernel
theorem dX11_commonOf_45 : decode cX11_commonOf 45 = .ok (.lload 4, 2) := by decide +kernel
theorem dX11_commonOf_47 : decode cX11_commonOf 47 = .ok (.lreturn, 1) := by decide +kernel
theorem dX12_init_0 : decode cX12_init 0 = .ok (.aload_n 0, 1) := by decide +kernel
theorem dX12_init_1 : decode cX12_init 1 = .ok (.invokespecial 1, 3) := by decide +kernel
theorem dX12_init_4 : decode cX12_init 4 = .ok (.aload_n 0, 1) := by decide +kernel
theorem dX12_init_5 : decode cX12_init 5 = .ok (.sipush 253, 3) := by decide +kernel
theorem dX12_init_8 : decode cX12_init 8 = .ok (.newarray .int, 2) := by decide +kernel
theorem dX12_init_10 : decode cX12_init 10 = .ok (.putfield 7, 3) := by decide +kernel
theorem dX12_init_13 : decode cX12_init 13 = .ok (.aload_n 0, 1) := by decide +kernel
theorem dX12_init_14 : decode cX12_init 14 = .ok (.iconst 2, 1) := by decide +kernel
theorem dX12_init_15 : decode cX12_init 15 = .ok (.newarray .boolean, 2) := by decide +kernel
theorem dX12_init_17 : decode cX12_init 17 = .ok (.putfield 13, 3) := by decide +kernel
theorem dX12_init_20 : decode cX12_init 20 = .ok (.aload_n 0, 1) := by decide +kernel
theorem dX12_init_21 : decode cX12_init 21 = .ok (.bipush 7, 2) := by decide +kernel
theorem dX12_init_23 : decode cX12_init 23 = .ok (.newarray .int, 2) := by decide +kernel
theorem dX12_init_25 : decode cX12_init 25 = .ok (.putfield 17, 3) := by decide +kernel
theorem dX12_init_28 : decode cX12_init 28 = .ok (.aload_n 0, 1) := by decide +kernel
theorem dX12_init_29 : decode cX12_init 29 = .ok (.bipush 7, 2) := by decide +kernel
theorem dX12_init_31 : decode cX12_init 31 = .ok (.newarray .int, 2) := by decide +kernel
theorem dX12_init_33 : decode cX12_init 33 = .ok (.putfield 20, 3) := by decide +kernel
theorem dX12_init_36 : decode cX12_init 36 = .ok (.aload_n 0, 1) := by decide +kernel
theorem dX12_init_37 : decode cX12_init 37 = .ok (.bipush 7, 2) := by decide +kernel
theorem dX12_init_39 : decode cX12_init 39 = .ok (.newarray .int, 2) := by decide +kernel
theorem dX12_init_41 : decode cX12_init 41 = .ok (.putfield 23, 3) := by decide +kernel
theorem dX12_init_44 : decode cX12_init 44 = .ok (.aload_n 0, 1) := by decide +kernel
theorem dX12_init_45 : decode cX12_init 45 = .ok (.bipush 7, 2) := by decide +kernel
theorem dX12_init_47 : decode cX12_init 47 = .ok (.newarray .int, 2) := by decide +kernel
theorem dX12_init_49 : decode cX12_init 49 = .ok (.putfield 26, 3) := by decide +kernel
theorem dX12_init_52 : decode cX12_init 52 = .ok (.aload_n 0, 1) := by decide +kernel
theorem dX12_init_53 : decode cX12_init 53 = .ok (.bipush 7, 2) := by decide +kernel
theorem dX12_init_55 : decode cX12_init 55 = .ok (.newarray .int, 2) := by decide +kernel
theorem dX12_init_57 : decode cX12_init 57 = .ok (.putfield 29, 3) := by decide +kernel
theorem dX12_init_60 : decode cX12_init 60 = .ok (.aload_n 0, 1) := by decide +kernel
theorem dX12_init_61 : decode cX12_init 61 = .ok (.bipush 7, 2) := by decide +kernel
theorem dX12_init_63 : decode cX12_init 63 = .ok (.newarray .int, 2) := by decide +kernel
theorem dX12_init_65 : decode cX12_init 65 = .ok (.putfield 32, 3) := by decide +kernel
theorem dX12_init_68 : decode cX12_init 68 = .ok (.aload_n 0, 1) := by decide +kernel
theorem dX12_init_69 : decode cX12_init 69 = .ok (.bipush 7, 2) := by decide +kernel
theorem dX12_init_71 : decode cX12_init 71 = .ok (.newarray .int, 2) := by decide +kernel
theorem dX12_init_73 : decode cX12_init 73 = .ok (.putfield 35, 3) := by decide +kernel
theorem dX12_init_76 : decode cX12_init 76 = .ok (.aload_n 0, 1) := by decide +kernel
theorem dX12_init_77 : decode cX12_init 77 = .ok (.iconst 3, 1) := by decide +kernel
theorem dX12_init_78 : decode cX12_init 78 = .ok (.newarray .int, 2) := by decide +kernel
theorem dX12_init_80 : decode cX12_init 80 = .ok (.putfield 38, 3) := by decide +kernel
theorem dX12_init_83 : decode cX12_init 83 = .ok (.aload_n 0, 1) := by decide +kernel
theorem dX12_init_84 : decode cX12_init 84 = .ok (.bipush 60, 2) := by decide +kernel
theorem dX12_init_86 : decode cX12_init 86 = .ok (.putfield 41, 3) := by decide +kernel
theorem dX12_init_89 : decode cX12_init 89 = .ok (.aload_n 0, 1) := by decide +kernel
theorem dX12_init_90 : decode cX12_init 90 = .ok (.sipush 200, 3) := by decide +kernel
theorem dX12_init_93 : decode cX12_init 93 = .ok (.newarray .int, 2) := by decide +kernel
theorem dX12_init_95 : decode cX12_init 95 = .ok (.putfield 45, 3) := by decide +kernel
theorem dX12_init_98 : decode cX12_init 98 = .ok (.aload_n 0, 1) := by decide +kernel
theorem dX12_init_99 : decode cX12_init 99 = .ok (.bipush 6, 2) := by decide +kernel
theorem dX12_init_101 : decode cX12_init 101 = .ok (.newarray .int, 2) := by decide +kernel
theorem dX12_init_103 : decode cX12_init 103 = .ok (.putfield 48, 3) := by decide +kernel
theorem dX12_init_106 : decode cX12_init 106 = .ok (.aload_n 0, 1) := by decide +kernel
theorem dX12_init_107 : decode cX12_init 107 = .ok (.bipush 6, 2) := by decide +kernel
theorem dX12_init_109 : decode cX12_init 109 = .ok (.newarray .int, 2) := by decide +kernel
theorem dX12_init_111 : decode cX12_init 111 = .ok (.putfield 51, 3) := by decide +kernel
theorem dX12_init_114 : decode cX12_init 114 = .ok (.aload_n 0, 1) := by decide +kernel
theorem dX12_init_115 : decode cX12_init 115 = .ok (.iconst 4, 1) := by decide +kernel
theorem dX12_init_116 : decode cX12_init 116 = .ok (.newarray .int, 2) := by decide +kernel
theorem dX12_init_118 : decode cX12_init 118 = .ok (.putfield 54, 3) := by decide +kernel
theorem dX12_init_121 : decode cX12_init 121 = .ok (.aload_n 0, 1) := by decide +kernel
theorem dX12_init_122 : decode cX12_init 122 = .ok (.iconst 5, 1) := by decide +kernel
theorem dX12_init_123 : decode cX12_init 123 = .ok (.newarray .int, 2) := by decide +kernel
theorem dX12_init_125 : decode cX12_init 125 = .ok (.dup, 1) := by decide +kernel
theorem dX12_init_126 : decode cX12_init 126 = .ok (.iconst 0, 1) := by decide +kernel
theorem dX12_init_127 : decode cX12_init 127 = .ok (.bipush 98, 2) := by decide +kernel
theorem dX12_init_129 : decode cX12_init 129 = .ok (.iastore, 1) := by decide +kernel
theorem dX12_init_130 : decode cX12_init 130 = .ok (.dup, 1) := by decide +kernel
theorem dX12_init_131 : decode cX12_init 131 = .ok (.iconst 1, 1) := by decide +kernel
theorem dX12_init_132 : decode cX12_init 132 = .ok (.bipush 114, 2) := by decide +kernel
theorem dX12_init_134 : decode cX12_init 134 = .ok (.iastore, 1) := by decide +kernel
theorem dX12_init_135 : decode cX12_init 135 = .ok (.dup, 1) := by decide +kernel
theorem dX12_init_136 : decode cX12_init 136 = .ok (.iconst 2, 1) := by decide +kernel
theorem dX12_init_137 : decode cX12_init 137 = .ok (.bipush 97, 2) := by decide +kernel
theorem dX12_init_139 : decode cX12_init 139 = .ok (.iastore, 1) := by decide +kernel
theorem dX12_init_140 : decode cX12_init 140 = .ok (.dup, 1) := by decide +kernel
theorem dX12_init_141 : decode cX12_init 141 = .ok (.iconst 3, 1) := by decide +kernel
theorem dX12_init_142 : decode cX12_init 142 = .ok (.bipush 115, 2) := by decide +kernel
theorem dX12_init_144 : decode cX12_init 144 = .ok (.iastore, 1) := by decide +kernel
theorem dX12_init_145 : decode cX12_init 145 = .ok (.dup, 1) := by decide +kernel
theorem dX12_init_146 : decode cX12_init 146 = .ok (.iconst 4, 1) := by decide +kernel
theorem dX12_init_147 : decode cX12_init 147 = .ok (.bipush 115, 2) := by decide +kernel
theorem dX12_init_149 : decode cX12_init 149 = .ok (.iastore, 1) := by decide +kernel
theorem dX12_init_150 : decode cX12_init 150 = .ok (.putfield 57, 3) := by decide +kernel
theorem dX12_init_153 : decode cX12_init 153 = .ok (.aload_n 0, 1) := by decide +kernel
theorem dX12_init_154 : decode cX12_init 154 = .ok (.iconst 5, 1) := by decide +kernel
theorem dX12_init_155 : decode cX12_init 155 = .ok (.newarray .int, 2) := by decide +kernel
theorem dX12_init_157 : decode cX12_init 157 = .ok (.dup, 1) := by decide +kernel
theorem dX12_init_158 : decode cX12_init 158 = .ok (.iconst 0, 1) := by decide +kernel
theorem dX12_init_159 : decode cX12_init 159 = .ok (.bipush 114, 2) := by decide +kernel
theorem dX12_init_161 : decode cX12_init 161 = .ok (.iastore, 1) := by decide +kernel
theorem dX12_init_162 : decode cX12_init 162 = .ok (.dup, 1) := by decide +kernel
theorem dX12_init_163 : decode cX12_init 163 = .ok (.iconst 1, 1) := by decide +kernel
theorem dX12_init_164 : decode cX12_init 164 = .ok (.bipush 117, 2) := by decide +kernel
theorem dX12_init_166 : decode cX12_init 166 = .ok (.iastore, 1) := by decide +kernel
theorem dX12_init_167 : decode cX12_init 167 = .ok (.dup, 1) := by decide +kernel
theorem dX12_init_168 : decode cX12_init 168 = .ok (.iconst 2, 1) := by decide +kernel
theorem dX12_init_169 : decode cX12_init 169 = .ok (.bipush 115, 2) := by decide +kernel
theorem dX12_init_171 : decode cX12_init 171 = .ok (.iastore, 1) := by decide +kernel
theorem dX12_init_172 : decode cX12_init 172 = .ok (.dup, 1) := by decide +kernel
theorem dX12_init_173 : decode cX12_init 173 = .ok (.iconst 3, 1) := by decide +kernel
theorem dX12_init_174 : decode cX12_init 174 = .ok (.bipush 116, 2) := by decide +kernel
theorem dX12_init_176 : decode cX12_init 176 = .ok (.iastore, 1) := by decide +kernel
theorem dX12_init_177 : decode cX12_init 177 = .ok (.dup, 1) := by decide +kernel
theorem dX12_init_178 : decode cX12_init 178 = .ok (.iconst 4, 1) := by decide +kernel
theorem dX12_init_179 : decode cX12_init 179 = .ok (.bipush 121, 2) := by decide +kernel
theorem dX12_init_181 : decode cX12_init 181 = .ok (.iastore, 1) := by decide +kernel
theorem dX12_init_182 : decode cX12_init 182 = .ok (.putfield 60, 3) := by decide +kernel
theorem dX12_init_185 : decode cX12_init 185 = .ok (.aload_n 0, 1) := by decide +kernel
theorem dX12_init_186 : decode cX12_init 186 = .ok (.bipush 6, 2) := by decide +kernel
theorem dX12_init_188 : decode cX12_init 188 = .ok (.newarray .int, 2) := by decide +kernel
theorem dX12_init_190 : decode cX12_init 190 = .ok (.dup, 1) := by decide +kernel
theorem dX12_init_191 : decode cX12_init 191 = .ok (.iconst 0, 1) := by decide +kernel
theorem dX12_init_192 : decode cX12_init 192 = .ok (.bipush 109, 2) := by decide +kernel
theorem dX12_init_194 : decode cX12_init 194 = .ok (.iastore, 1) := by decide +kernel
theorem dX12_init_195 : decode cX12_init 195 = .ok (.dup, 1) := by decide +kernel
theorem dX12_init_196 : decode cX12_init 196 = .ok (.iconst 1, 1) := by decide +kernel
theorem dX12_init_197 : decode cX12_init 197 = .ok (.bipush 97, 2) := by decide +kernel
theorem dX12_init_199 : decode cX12_init 199 = .ok (.iastore, 1) := by decide +kernel
theorem dX12_init_200 : decode cX12_init 200 = .ok (.dup, 1) := by decide +kernel
theorem dX12_init_201 : decode cX12_init 201 = .ok (.iconst 2, 1) := by decide +kernel
theorem dX12_init_202 : decode cX12_init 202 = .ok (.bipush 115, 2) := by decide +kernel
theorem dX12_init_204 : decode cX12_init 204 = .ok (.iastore, 1) := by decide +kernel
theorem dX12_init_205 : decode cX12_init 205 = .ok (.dup, 1) := by decide +kernel
theorem dX12_init_206 : decode cX12_init 206 = .ok (.iconst 3, 1) := by decide +kernel
theorem dX12_init_207 : decode cX12_init 207 = .ok (.bipush 116, 2) := by decide +kernel
theorem dX12_init_209 : decode cX12_init 209 = .ok (.iastore, 1) := by decide +kernel
theorem dX12_init_210 : decode cX12_init 210 = .ok (.dup, 1) := by decide +kernel
theorem dX12_init_211 : decode cX12_init 211 = .ok (.iconst 4, 1) := by decide +kernel
theorem dX12_init_212 : decode cX12_init 212 = .ok (.bipush 101, 2) := by decide +kernel
theorem dX12_init_214 : decode cX12_init 214 = .ok (.iastore, 1) := by decide +kernel
theorem dX12_init_215 : decode cX12_init 215 = .ok (.dup, 1) := by decide +kernel
theorem dX12_init_216 : decode cX12_init 216 = .ok (.iconst 5, 1) := by decide +kernel
theorem dX12_init_217 : decode cX12_init 217 = .ok (.bipush 114, 2) := by decide +kernel
theorem dX12_init_219 : decode cX12_init 219 = .ok (.iastore, 1) := by decide +kernel
theorem dX12_init_220 : decode cX12_init 220 = .ok (.putfield 63, 3) := by decide +kernel
theorem dX12_init_223 : decode cX12_init 223 = .ok (.aload_n 0, 1) := by decide +kernel
theorem dX12_init_224 : decode cX12_init 224 = .ok (.iconst 5, 1) := by decide +kernel
theorem dX12_init_225 : decode cX12_init 225 = .ok (.newarray .int, 2) := by decide +kernel
theorem dX12_init_227 : decode cX12_init 227 = .ok (.dup, 1) := by decide +kernel
theorem dX12_init_228 : decode cX12_init 228 = .ok (.iconst 0, 1) := by decide +kernel
theorem dX12_init_229 : decode cX12_init 229 = .ok (.bipush 102, 2) := by decide +kernel
theorem dX12_init_231 : decode cX12_init 231 = .ok (.iastore, 1) := by decide +kernel
theorem dX12_init_232 : decode cX12_init 232 = .ok (.dup, 1) := by decide +kernel
theorem dX12_init_233 : decode cX12_init 233 = .ok (.iconst 1, 1) := by decide +kernel
theorem dX12_init_234 : decode cX12_init 234 = .ok (.bipush 105, 2) := by decide +kernel
theorem dX12_init_236 : decode cX12_init 236 = .ok (.iastore, 1) := by decide +kernel
theorem dX12_init_237 : decode cX12_init 237 = .ok (.dup, 1) := by decide +kernel
theorem dX12_init_238 : decode cX12_init 238 = .ok (.iconst 2, 1) := by decide +kernel
theorem dX12_init_239 : decode cX12_init 239 = .ok (.bipush 108, 2) := by decide +kernel
theorem dX12_init_241 : decode cX12_init 241 = .ok (.iastore, 1) := by decide +kernel
theorem dX12_init_242 : decode cX12_init 242 = .ok (.dup, 1) := by decide +kernel
theorem dX12_init_243 : decode cX12_init 243 = .ok (.iconst 3, 1) := by decide +kernel
theorem dX12_init_244 : decode cX12_init 244 = .ok (.bipush 101, 2) := by decide +kernel
theorem dX12_init_246 : decode cX12_init 246 = .ok (.iastore, 1) := by decide +kernel
theorem dX12_init_247 : decode cX12_init 247 = .ok (.dup, 1) := by decide +kernel
theorem dX12_init_248 : decode cX12_init 248 = .ok (.iconst 4, 1) := by decide +kernel
theorem dX12_init_249 : decode cX12_init 249 = .ok (.bipush 100, 2) := by decide +kernel
theorem dX12_init_251 : decode cX12_init 251 = .ok (.iastore, 1) := by decide +kernel
theorem dX12_init_252 : decode cX12_init 252 = .ok (.putfield 66, 3) := by decide +kernel
theorem dX12_init_255 : decode cX12_init 255 = .ok (.aload_n 0, 1) := by decide +kernel
theorem dX12_init_256 : decode cX12_init 256 = .ok (.iconst 4, 1) := by decide +kernel
theorem dX12_init_257 : decode cX12_init 257 = .ok (.newarray .int, 2) := by decide +kernel
theorem dX12_init_259 : decode cX12_init 259 = .ok (.dup, 1) := by decide +kernel
theorem dX12_init_260 : decode cX12_init 260 = .ok (.iconst 0, 1) := by decide +kernel
theorem dX12_init_261 : decode cX12_init 261 = .ok (.bipush 108, 2) := by decide +kernel
theorem dX12_init_263 : decode cX12_init 263 = .ok (.iastore, 1) := by decide +kernel
theorem dX12_init_264 : decode cX12_init 264 = .ok (.dup, 1) := by decide +kernel
theorem dX12_init_265 : decode cX12_init 265 = .ok (.iconst 1, 1) := by decide +kernel
theorem dX12_init_266 : decode cX12_init 266 = .ok (.bipush 97, 2) := by decide +kernel
theorem dX12_init_268 : decode cX12_init 268 = .ok (.iastore, 1) := by decide +kernel
theorem dX12_init_269 : decode cX12_init 269 = .ok (.dup, 1) := by decide +kernel
theorem dX12_init_270 : decode cX12_init 270 = .ok (.iconst 2, 1) := by decide +kernel
theorem dX12_init_271 : decode cX12_init 271 = .ok (.bipush 110, 2) := by decide +kernel
theorem dX12_init_273 : decode cX12_init 273 = .ok (.iastore, 1) := by decide +kernel
theorem dX12_init_274 : decode cX12_init 274 = .ok (.dup, 1) := by decide +kernel
theorem dX12_init_275 : decode cX12_init 275 = .ok (.iconst 3, 1) := by decide +kernel
theorem dX12_init_276 : decode cX12_init 276 = .ok (.bipush 100, 2) := by decide +kernel
theorem dX12_init_278 : decode cX12_init 278 = .ok (.iastore, 1) := by decide +kernel
theorem dX12_init_279 : decode cX12_init 279 = .ok (.putfield 69, 3) := by decide +kernel
theorem dX12_init_282 : decode cX12_init 282 = .ok (.aload_n 0, 1) := by decide +kernel
theorem dX12_init_283 : decode cX12_init 283 = .ok (.iconst 4, 1) := by decide +kernel
theorem dX12_init_284 : decode cX12_init 284 = .ok (.newarray .int, 2) := by decide +kernel
theorem dX12_init_286 : decode cX12_init 286 = .ok (.dup, 1) := by decide +kernel
theorem dX12_init_287 : decode cX12_init 287 = .ok (.iconst 0, 1) := by decide +kernel
theorem dX12_init_288 : decode cX12_init 288 = .ok (.bipush 108, 2) := by decide +kernel
theorem dX12_init_290 : decode cX12_init 290 = .ok (.iastore, 1) := by decide +kernel
theorem dX12_init_291 : decode cX12_init 291 = .ok (.dup, 1) := by decide +kernel
theorem dX12_init_292 : decode cX12_init 292 = .ok (.iconst 1, 1) := by decide +kernel
theorem dX12_init_293 : decode cX12_init 293 = .ok (.bipush 111, 2) := by decide +kernel
theorem dX12_init_295 : decode cX12_init 295 = .ok (.iastore, 1) := by decide +kernel
theorem dX12_init_296 : decode cX12_init 296 = .ok (.dup, 1) := by decide +kernel
theorem dX12_init_297 : decode cX12_init 297 = .ok (.iconst 2, 1) := by decide +kernel
theorem dX12_init_298 : decode cX12_init 298 = .ok (.bipush 99, 2) := by decide +kernel
theorem dX12_init_300 : decode cX12_init 300 = .ok (.iastore, 1) := by decide +kernel
theorem dX12_init_301 : decode cX12_init 301 = .ok (.dup, 1) := by decide +kernel
theorem dX12_init_302 : decode cX12_init 302 = .ok (.iconst 3, 1) := by decide +kernel
theorem dX12_init_303 : decode cX12_init 303 = .ok (.bipush 107, 2) := by decide +kernel
theorem dX12_init_305 : decode cX12_init 305 = .ok (.iastore, 1) := by decide +kernel
theorem dX12_init_306 : decode cX12_init 306 = .ok (.putfield 72, 3) := by decide +kernel
theorem dX12_init_309 : decode cX12_init 309 = .ok (.aload_n 0, 1) := by decide +kernel
theorem dX12_init_310 : decode cX12_init 310 = .ok (.bipush 6, 2) := by decide +kernel
theorem dX12_init_312 : decode cX12_init 312 = .ok (.newarray .int, 2) := by decide +kernel
theorem dX12_init_314 : decode cX12_init 314 = .ok (.dup, 1) := by decide +kernel
theorem dX12_init_315 : decode cX12_init 315 = .ok (.iconst 0, 1) := by decide +kernel
theorem dX12_init_316 : decode cX12_init 316 = .ok (.bipush 119, 2) := by decide +kernel
theorem dX12_init_318 : decode cX12_init 318 = .ok (.iastore, 1) := by decide +kernel
theorem dX12_init_319 : decode cX12_init 319 = .ok (.dup, 1) := by decide +kernel
theorem dX12_init_320 : decode cX12_init 320 = .ok (.iconst 1, 1) := by decide +kernel
theorem dX12_init_321 : decode cX12_init 321 = .ok (.bipush 97, 2) := by decide +kernel
theorem dX12_init_323 : decode cX12_init 323 = .ok (.iastore, 1) := by decide +kernel
theorem dX12_init_324 : decode cX12_init 324 = .ok (.dup, 1) := by decide +kernel
theorem dX12_init_325 : decode cX12_init 325 = .ok (.iconst 2, 1) := by decide +kernel
theorem dX12_init_326 : decode cX12_init 326 = .ok (.bipush 108, 2) := by decide +kernel
theorem dX12_init_328 : decode cX12_init 328 = .ok (.iastore, 1) := by decide +kernel
theorem dX12_init_329 : decode cX12_init 329 = .ok (.dup, 1) := by decide +kernel
theorem dX12_init_330 : decode cX12_init 330 = .ok (.iconst 3, 1) := by decide +kernel
theorem dX12_init_331 : decode cX12_init 331 = .ok (.bipush 107, 2) := by decide +kernel
theorem dX12_init_333 : decode cX12_init 333 = .ok (.iastore, 1) := by decide +kernel
theorem dX12_init_334 : decode cX12_init 334 = .ok (.dup, 1) := by decide +kernel
theorem dX12_init_335 : decode cX12_init 335 = .ok (.iconst 4, 1) := by decide +kernel
theorem dX12_init_336 : decode cX12_init 336 = .ok (.bipush 101, 2) := by decide +kernel
theorem dX12_init_338 : decode cX12_init 338 = .ok (.iastore, 1) := by decide +kernel
theorem dX12_init_339 : decode cX12_init 339 = .ok (.dup, 1) := by decide +kernel
theorem dX12_init_340 : decode cX12_init 340 = .ok (.iconst 5, 1) := by decide +kernel
theorem dX12_init_341 : decode cX12_init 341 = .ok (.bipush 114, 2) := by decide +kernel
theorem dX12_init_343 : decode cX12_init 343 = .ok (.iastore, 1) := by decide +kernel
theorem dX12_init_344 : decode cX12_init 344 = .ok (.putfield 75, 3) := by decide +kernel
theorem dX12_init_347 : decode cX12_init 347 = .ok (.aload_n 0, 1) := by decide +kernel
theorem dX12_init_348 : decode cX12_init 348 = .ok (.iconst 4, 1) := by decide +kernel
theorem dX12_init_349 : decode cX12_init 349 = .ok (.newarray .int, 2) := by decide +kernel
theorem dX12_init_351 : decode cX12_init 351 = .ok (.dup, 1) := by decide +kernel
theorem dX12_init_352 : decode cX12_init 352 = .ok (.iconst 0, 1) := by decide +kernel
theorem dX12_init_353 : decode cX12_init 353 = .ok (.bipush 100, 2) := by decide +kernel
theorem dX12_init_355 : decode cX12_init 355 = .ok (.iastore, 1) := by decide +kernel
theorem dX12_init_356 : decode cX12_init 356 = .ok (.dup, 1) := by decide +kernel
theorem dX12_init_357 : decode cX12_init 357 = .ok (.iconst 1, 1) := by decide +kernel
theorem dX12_init_358 : decode cX12_init 358 = .ok (.bipush 97, 2) := by decide +kernel
theorem dX12_init_360 : decode cX12_init 360 = .ok (.iastore, 1) := by decide +kernel
theorem dX12_init_361 : decode cX12_init 361 = .ok (.dup, 1) := by decide +kernel
theorem dX12_init_362 : decode cX12_init 362 = .ok (.iconst 2, 1) := by decide +kernel
theorem dX12_init_363 : decode cX12_init 363 = .ok (.bipush 114, 2) := by decide +kernel
theorem dX12_init_365 : decode cX12_init 365 = .ok (.iastore, 1) := by decide +kernel
theorem dX12_init_366 : decode cX12_init 366 = .ok (.dup, 1) := by decide +kernel
theorem dX12_init_367 : decode cX12_init 367 = .ok (.iconst 3, 1) := by decide +kernel
theorem dX12_init_368 : decode cX12_init 368 = .ok (.bipush 107, 2) := by decide +kernel
theorem dX12_init_370 : decode cX12_init 370 = .ok (.iastore, 1) := by decide +kernel
theorem dX12_init_371 : decode cX12_init 371 = .ok (.putfield 78, 3) := by decide +kernel
theorem dX12_init_374 : decode cX12_init 374 = .ok (.aload_n 0, 1) := by decide +kernel
theorem dX12_init_375 : decode cX12_init 375 = .ok (.sipush 1024, 3) := by decide +kernel
theorem dX12_init_378 : decode cX12_init 378 = .ok (.newarray .int, 2) := by decide +kernel
theorem dX12_init_380 : decode cX12_init 380 = .ok (.putfield 81, 3) := by decide +kernel
theorem dX12_init_383 : decode cX12_init 383 = .ok (.aload_n 0, 1) := by decide +kernel
theorem dX12_init_384 : decode cX12_init 384 = .ok (.sipush 896, 3) := by decide +kernel
theorem dX12_init_387 : decode cX12_init 387 = .ok (.newarray .int, 2) := by decide +kernel
theorem dX12_init_389 : decode cX12_init 389 = .ok (.putfield 84, 3) := by decide +kernel
theorem dX12_init_392 : decode cX12_init 392 = .ok (.aload_n 0, 1) := by decide +kernel
theorem dX12_init_393 : decode cX12_init 393 = .ok (.sipush 128, 3) := by decide +kernel
theorem dX12_init_396 : decode cX12_init 396 = .ok (.newarray .int, 2) := by decide +kernel
theorem dX12_init_398 : decode cX12_init 398 = .ok (.putfield 87, 3) := by decide +kernel
theorem dX12_init_401 : decode cX12_init 401 = .ok (.aload_n 0, 1) := by decide +kernel
theorem dX12_init_402 : decode cX12_init 402 = .ok (.sipush 128, 3) := by decide +kernel
theorem dX12_init_405 : decode cX12_init 405 = .ok (.newarray .int, 2) := by decide +kernel
theorem dX12_init_407 : decode cX12_init 407 = .ok (.putfield 90, 3) := by decide +kernel
theorem dX12_init_410 : decode cX12_init 410 = .ok (.aload_n 0, 1) := by decide +kernel
theorem dX12_init_411 : decode cX12_init 411 = .ok (.sipush 128, 3) := by decide +kernel
theorem dX12_init_414 : decode cX12_init 414 = .ok (.newarray .int, 2) := by decide +kernel
theorem dX12_init_416 : decode cX12_init 416 = .ok (.putfield 93, 3) := by decide +kernel
theorem dX12_init_419 : decode cX12_init 419 = .ok (.aload_n 0, 1) := by decide +kernel
theorem dX12_init_420 : decode cX12_init 420 = .ok (.iconst 4, 1) := by decide +kernel
theorem dX12_init_421 : decode cX12_init 421 = .ok (.newarray .int, 2) := by decide +kernel
theorem dX12_init_423 : decode cX12_init 423 = .ok (.putfield 96, 3) := by decide +kernel
theorem dX12_init_426 : decode cX12_init 426 = .ok (.aload_n 0, 1) := by decide +kernel
theorem dX12_init_427 : decode cX12_init 427 = .ok (.iconst 4, 1) := by decide +kernel
theorem dX12_init_428 : decode cX12_init 428 = .ok (.newarray .int, 2) := by decide +kernel
theorem dX12_init_430 : decode cX12_init 430 = .ok (.dup, 1) := by decide +kernel
theorem dX12_init_431 : decode cX12_init 431 = .ok (.iconst 0, 1) := by decide +kernel
theorem dX12_init_432 : decode cX12_init 432 = .ok (.iconst (-1), 1) := by decide +kernel
theorem dX12_init_433 : decode cX12_init 433 = .ok (.iastore, 1) := by decide +kernel
theorem dX12_init_434 : decode cX12_init 434 = .ok (.dup, 1) := by decide +kernel
theorem dX12_init_435 : decode cX12_init 435 = .ok (.iconst 1, 1) := by decide +kernel
theorem dX12_init_436 : decode cX12_init 436 = .ok (.iconst (-1), 1) := by decide +kernel
theorem dX12_init_437 : decode cX12_init 437 = .ok (.iastore, 1) := by decide +kernel
theorem dX12_init_438 : decode cX12_init 438 = .ok (.dup, 1) := by decide +kernel
theorem dX12_init_439 : decode cX12_init 439 = .ok (.iconst 2, 1) := by decide +kernel
theorem dX12_init_440 : decode cX12_init 440 = .ok (.iconst (-1), 1) := by decide +kernel
theorem dX12_init_441 : decode cX12_init 441 = .ok (.iastore, 1) := by decide +kernel
theorem dX12_init_442 : decode cX12_init 442 = .ok (.dup, 1) := by decide +kernel
theorem dX12_init_443 : decode cX12_init 443 = .ok (.iconst 3, 1) := by decide +kernel
theorem dX12_init_444 : decode cX12_init 444 = .ok (.iconst (-1), 1) := by decide +kernel
theorem dX12_init_445 : decode cX12_init 445 = .ok (.iastore, 1) := by decide +kernel
theorem dX12_init_446 : decode cX12_init 446 = .ok (.putfield 99, 3) := by decide +kernel
theorem dX12_init_449 : decode cX12_init 449 = .ok (.aload_n 0, 1) := by decide +kernel
theorem dX12_init_450 : decode cX12_init 450 = .ok (.bipush 96, 2) := by decide +kernel
theorem dX12_init_452 : decode cX12_init 452 = .ok (.newarray .long, 2) := by decide +kernel
theorem dX12_init_454 : decode cX12_init 454 = .ok (.putfield 102, 3) := by decide +kernel
theorem dX12_init_457 : decode cX12_init 457 = .ok (.aload_n 0, 1) := by decide +kernel
theorem dX12_init_458 : decode cX12_init 458 = .ok (.bipush 24, 2) := by decide +kernel
theorem dX12_init_460 : decode cX12_init 460 = .ok (.newarray .long, 2) := by decide +kernel
theorem dX12_init_462 : decode cX12_init 462 = .ok (.putfield 106, 3) := by decide +kernel
theorem dX12_init_465 : decode cX12_init 465 = .ok (.return_, 1) := by decide +kernel
theorem dX12_in_0 : decode cX12_in 0 = .ok (.lload_n 0, 1) := by decide +kernel
theorem dX12_in_1 : decode cX12_in 1 = .ok (.lload_n 2, 1) := by decide +kernel
theorem dX12_in_2 : decode cX12_in 2 = .ok (.lcmp, 1) := by decide +kernel
theorem dX12_in_3 : decode cX12_in 3 = .ok (.ifCond .lt 14, 3) := by decide +kernel
theorem dX12_in_6 : decode cX12_in 6 = .ok (.lload_n 0, 1) := by decide +kernel
theorem dX12_in_7 : decode cX12_in 7 = .ok (.lload 4, 2) := by decide +kernel
theorem dX12_in_9 : decode cX12_in 9 = .ok (.lcmp, 1) := by decide +kernel
theorem dX12_in_10 : decode cX12_in 10 = .ok (.ifCond .gt 7, 3) := by decide +kernel
theorem dX12_in_13 : decode cX12_in 13 = .ok (.iconst 1, 1) := by decide +kernel
theorem dX12_in_14 : decode cX12_in 14 = .ok (.goto 4, 3) := by decide +kernel
theorem dX12_in_17 : decode cX12_in 17 = .ok (.iconst 0, 1) := by decide +kernel
theorem dX12_in_18 : decode cX12_in 18 = .ok (.ireturn, 1) := by decide +kernel
theorem dX12_has_0 : decode cX12_has 0 = .ok (.iload_n 0, 1) := by decide +kernel
theorem dX12_has_1 : decode cX12_has 1 = .ok (.iload_n 1, 1) := by decide +kernel
theorem dX12_has_2 : decode cX12_has 2 = .ok (.ishr, 1) := by decide +kernel
theorem dX12_has_3 : decode cX12_has 3 = .ok (.iconst 1, 1) := by decide +kernel
theorem dX12_has_4 : decode cX12_has 4 = .ok (.iand, 1) := by decide +kernel
theorem dX12_has_5 : decode cX12_has 5 = .ok (.iconst 1, 1) := by decide +kernel
theorem dX12_has_6 : decode cX12_has 6 = .ok (.if_icmp .ne 7, 3) := by decide +kernel
theorem dX12_has_9 : decode cX12_has 9 = .ok (.iconst 1, 1) := by decide +kernel
theorem dX12_has_10 : decode cX12_has 10 = .ok (.goto 4, 3) := by decide +kernel
theorem dX12_has_13 : decode cX12_has 13 = .ok (.iconst 0, 1) := by decide +kernel
theorem dX12_has_14 : decode cX12_has 14 = .ok (.ireturn, 1) := by decide +kernel
theorem dX12_bits_0 : decode cX12_bits 0 = .ok (.iconst 0, 1) := by decide +kernel
theorem dX12_bits_1 : decode cX12_bits 1 = .ok (.istore_n 1, 1) := by decide +kernel
theorem dX12_bits_2 : decode cX12_bits 2 = .ok (.iconst 0, 1) := by decide +kernel
theorem dX12_bits_3 : decode cX12_bits 3 = .ok (.istore_n 2, 1) := by decide +kernel
theorem dX12_bits_4 : decode cX12_bits 4 = .ok (.iload_n 2, 1) := by decide +kernel
theorem dX12_bits_5 : decode cX12_bits 5 = .ok (.bipush 9, 2) := by decide +kernel
theorem dX12_bits_7 : decode cX12_bits 7 = .ok (.if_icmp .ge 17, 3) := by decide +kernel
theorem dX12_bits_10 : decode cX12_bits 10 = .ok (.iload_n 1, 1) := by decide +kernel
theorem dX12_bits_11 : decode cX12_bits 11 = .ok (.iload_n 0, 1) := by decide +kernel
theorem dX12_bits_12 : decode cX12_bits 12 = .ok (.iload_n 2, 1) := by decide +kernel
theorem dX12_bits_13 : decode cX12_bits 13 = .ok (.ishr, 1) := by decide +kernel
theorem dX12_bits_14 : decode cX12_bits 14 = .ok (.iconst 1, 1) := by decide +kernel
theorem dX12_bits_15 : decode cX12_bits 15 = .ok (.iand, 1) := by decide +kernel
theorem dX12_bits_16 : decode cX12_bits 16 = .ok (.iadd, 1) := by decide +kernel
theorem dX12_bits_17 : decode cX12_bits 17 = .ok (.istore_n 1, 1) := by decide +kernel
theorem dX12_bits_18 : decode cX12_bits 18 = .ok (.iinc 2 1, 3) := by decide +kernel
theorem dX12_bits_21 : decode cX12_bits 21 = .ok (.goto (-17), 3) := by decide +kernel
theorem dX12_bits_24 : decode cX12_bits 24 = .ok (.iload_n 1, 1) := by decide +kernel
theorem dX12_bits_25 : decode cX12_bits 25 = .ok (.ireturn, 1) := by decide +kernel
theorem dX12_apart_0 : decode cX12_apart 0 = .ok (.iload_n 0, 1) := by decide +kernel
theorem dX12_apart_1 : decode cX12_apart 1 = .ok (.bipush 10, 2) := by decide +kernel
theorem dX12_apart_3 : decode cX12_apart 3 = .ok (.idiv, 1) := by decide +kernel
theorem dX12_apart_4 : decode cX12_apart 4 = .ok (.iload_n 1, 1) := by decide +kernel
theorem dX12_apart_5 : decode cX12_apart 5 = .ok (.bipush 10, 2) := by decide +kernel
theorem dX12_apart_7 : decode cX12_apart 7 = .ok (.idiv, 1) := by decide +kernel
theorem dX12_apart_8 : decode cX12_apart 8 = .ok (.isub, 1) := by decide +kernel
theorem dX12_apart_9 : decode cX12_apart 9 = .ok (.istore_n 2, 1) := by decide +kernel
theorem dX12_apart_10 : decode cX12_apart 10 = .ok (.iload_n 0, 1) := by decide +kernel
theorem dX12_apart_11 : decode cX12_apart 11 = .ok (.bipush 10, 2) := by decide +kernel
theorem dX12_apart_13 : decode cX12_apart 13 = .ok (.irem, 1) := by decide +kernel
theorem dX12_apart_14 : decode cX12_apart 14 = .ok (.iload_n 1, 1) := by decide +kernel
theorem dX12_apart_15 : decode cX12_apart 15 = .ok (.bipush 10, 2) := by decide +kernel
theorem dX12_apart_17 : decode cX12_apart 17 = .ok (.irem, 1) := by decide +kernel
theorem dX12_apart_18 : decode cX12_apart 18 = .ok (.isub, 1) := by decide +kernel
theorem dX12_apart_19 : decode cX12_apart 19 = .ok (.istore_n 3, 1) := by decide +kernel
theorem dX12_apart_20 : decode cX12_apart 20 = .ok (.iload_n 2, 1) := by decide +kernel
theorem dX12_apart_21 : decode cX12_apart 21 = .ok (.ifCond .ge 8, 3) := by decide +kernel
theorem dX12_apart_24 : decode cX12_apart 24 = .ok (.iload_n 2, 1) := by decide +kernel
theorem dX12_apart_25 : decode cX12_apart 25 = .ok (.ineg, 1) := by decide +kernel
theorem dX12_apart_26 : decode cX12_apart 26 = .ok (.goto 4, 3) := by decide +kernel
theorem dX12_apart_29 : decode cX12_apart 29 = .ok (.iload_n 2, 1) := by decide +kernel
theorem dX12_apart_30 : decode cX12_apart 30 = .ok (.iload_n 3, 1) := by decide +kernel
theorem dX12_apart_31 : decode cX12_apart 31 = .ok (.ifCond .ge 8, 3) := by decide +kernel
theorem dX12_apart_34 : decode cX12_apart 34 = .ok (.iload_n 3, 1) := by decide +kernel
theorem dX12_apart_35 : decode cX12_apart 35 = .ok (.ineg, 1) := by decide +kernel
theorem dX12_apart_36 : decode cX12_apart 36 = .ok (.goto 4, 3) := by decide +kernel
theorem dX12_apart_39 : decode cX12_apart 39 = .ok (.iload_n 3, 1) := by decide +kernel
theorem dX12_apart_40 : decode cX12_apart 40 = .ok (.iadd, 1) := by decide +kernel
theorem dX12_apart_41 : decode cX12_apart 41 = .ok (.ireturn, 1) := by decide +kernel
set_option maxRecDepth 20000 in
theorem ggX12_write_X12_in : GoodIn wsX12_write wsX12_in := goodIn_r _ [7] rfl (by decide +kernel)
set_option maxRecDepth 20000 in
theorem gX12_write_X12_in : GoodIn wsX12_write (va_wsS RX12 111 yX12_in wsX12_in) := goodIn_app (goodIn_of _ (by decide +kernel)) ggX12_write_X12_in
theorem dX12_write_0 : decode cX12_write 0 = .ok (.iload_n 1, 1) := by decide +kernel
theorem dX12_write_1 : decode cX12_write 1 = .ok (.i2l, 1) := by decide +kernel
theorem dX12_write_2 : decode cX12_write 2 = .ok (.lconst 0, 1) := by decide +kernel
theorem dX12_write_3 : decode cX12_write 3 = .ok (.ldc2_w 109, 3) := by decide +kernel
theorem dX12_write_6 : decode cX12_write 6 = .ok (.invokestatic 111, 3) := by decide +kernel
theorem dX12_write_9 : decode cX12_write 9 = .ok (.ifCond .ne 6, 3) := by decide +kernel
theorem dX12_write_12 : decode cX12_write 12 = .ok (.bipush (-3), 2) := by decide +kernel
theorem dX12_write_14 : decode cX12_write 14 = .ok (.ireturn, 1) := by decide +kernel
theorem dX12_write_15 : decode cX12_write 15 = .ok (.aload_n 0, 1) := by decide +kernel
theorem dX12_write_16 : decode cX12_write 16 = .ok (.getfield 115, 3) := by decide +kernel
theorem dX12_write_19 : decode cX12_write 19 = .ok (.sipush 200, 3) := by decide +kernel
theorem dX12_write_22 : decode cX12_write 22 = .ok (.if_icmp .ne 6, 3) := by decide +kernel
theorem dX12_write_25 : decode cX12_write 25 = .ok (.bipush (-5), 2) := by decide +kernel
theorem dX12_write_27 : decode cX12_write 27 = .ok (.ireturn, 1) := by decide +kernel
theorem dX12_write_28 : decode cX12_write 28 = .ok (.aload_n 0, 1) := by decide +kernel
theorem dX12_write_29 : decode cX12_write 29 = .ok (.getfield 45, 3) := by decide +kernel
theorem dX12_write_32 : decode cX12_write 32 = .ok (.aload_n 0, 1) := by decide +kernel
theorem dX12_write_33 : decode cX12_write 33 = .ok (.getfield 115, 3) := by decide +kernel
theorem dX12_write_36 : decode cX12_write 36 = .ok (.iload_n 1, 1) := by decide +kernel
theorem dX12_write_37 : decode cX12_write 37 = .ok (.iastore, 1) := by decide +kernel
theorem dX12_write_38 : decode cX12_write 38 = .ok (.aload_n 0, 1) := by decide +kernel
theorem dX12_write_39 : decode cX12_write 39 = .ok (.dup, 1) := by decide +kernel
theorem dX12_write_40 : decode cX12_write 40 = .ok (.getfield 115, 3) := by decide +kernel
theorem dX12_write_43 : decode cX12_write 43 = .ok (.iconst 1, 1) := by decide +kernel
theorem dX12_write_44 : decode cX12_write 44 = .ok (.iadd, 1) := by decide +kernel
theorem dX12_write_45 : decode cX12_write 45 = .ok (.putfield 115, 3) := by decide +kernel
theorem dX12_write_48 : decode cX12_write 48 = .ok (.aload_n 0, 1) := by decide +kernel
theorem dX12_write_49 : decode cX12_write 49 = .ok (.getfield 115, 3) := by decide +kernel
theorem dX12_write_52 : decode cX12_write 52 = .ok (.ireturn, 1) := by decide +kernel
theorem dX12_erase_0 : decode cX12_erase 0 = .ok (.aload_n 0, 1) := by decide +kernel
theorem dX12_erase_1 : decode cX12_erase 1 = .ok (.getfield 115, 3) := by decide +kernel
theorem dX12_erase_4 : decode cX12_erase 4 = .ok (.istore_n 1, 1) := by decide +kernel
theorem dX12_erase_5 : decode cX12_erase 5 = .ok (.aload_n 0, 1) := by decide +kernel
theorem dX12_erase_6 : decode cX12_erase 6 = .ok (.iconst 0, 1) := by decide +kernel
theorem dX12_erase_7 : decode cX12_erase 7 = .ok (.putfield 115, 3) := by decide +kernel
theorem dX12_erase_10 : decode cX12_erase 10 = .ok (.iload_n 1, 1) := by decide +kernel
theorem dX12_erase_11 : decode cX12_erase 11 = .ok (.ireturn, 1) := by decide +kernel
set_option maxRecDepth 20000 in
theorem ggX12_isLetter_X12_in : GoodIn wsX12_isLetter wsX12_in := goodIn_r _ [6] rfl (by decide +kernel)
set_option maxRecDepth 20000 in
theorem gX12_isLetter_X12_in : GoodIn wsX12_isLetter (va_wsS RX12 111 yX12_in wsX12_in) := goodIn_app (goodIn_of _ (by decide +kernel)) ggX12_isLetter_X12_in
theorem dX12_isLetter_0 : decode cX12_isLetter 0 = .ok (.iload_n 0, 1) := by decide +kernel
theorem dX12_isLetter_1 : decode cX12_isLetter 1 = .ok (.i2l, 1) := by decide +kernel
theorem dX12_isLetter_2 : decode cX12_isLetter 2 = .ok (.ldc2_w 118, 3) := by decide +kernel
theorem dX12_isLetter_5 : decode cX12_isLetter 5 = .ok (.ldc2_w 120, 3) := by decide +kernel
theorem dX12_isLetter_8 : decode cX12_isLetter 8 = .ok (.invokestatic 111, 3) := by decide +kernel
theorem dX12_isLetter_11 : decode cX12_isLetter 11 = .ok (.ireturn, 1) := by decide +kernel
set_option maxRecDepth 20000 in
theorem ggX12_isDigit_X12_in : GoodIn wsX12_isDigit wsX12_in := goodIn_r _ [6] rfl (by decide +kernel)
set_option maxRecDepth 20000 in
theorem gX12_isDigit_X12_in : GoodIn wsX12_isDigit (va_wsS RX12 111 yX12_in wsX12_in) := goodIn_app (goodIn_of _ (by decide +kernel)) ggX12_isDigit_X12_in
theorem dX12_isDigit_0 : decode cX12_isDigit 0 = .ok (.iload_n 0, 1) := by decide +kernel
theorem dX12_isDigit_1 : decode cX12_isDigit 1 = .ok (.i2l, 1) := by decide +kernel
theorem dX12_isDigit_2 : decode cX12_isDigit 2 = .ok (.ldc2_w 122, 3) := by decide +kernel
theorem dX12_isDigit_5 : decode cX12_isDigit 5 = .ok (.ldc2_w 124, 3) := by decide +kernel
theorem dX12_isDigit_8 : decode cX12_isDigit 8 = .ok (.invokestatic 111, 3) := by decide +kernel
theorem dX12_isDigit_11 : decode cX12_isDigit 11 = .ok (.ireturn, 1) := by decide +kernel
set_option maxRecDepth 20000 in
theorem ggX12_nextToken_X12_isLetter : GoodIn wsX12_nextToken wsX12_isLetter := goodIn_r _ [8, 9, 10, 11, 12, 7, 13] rfl (by decide +kernel)
set_option maxRecDepth 20000 in
theorem gX12_nextToken_X12_isLetter : GoodIn wsX12_nextToken (va_wsS RX12 132 yX12_isLetter wsX12_isLetter) := goodIn_app (goodIn_of _ (by decide +kernel)) ggX12_nextToken_X12_isLetter
set_option maxRecDepth 20000 in
theorem ggX12_nextToken_X12_isDigit : GoodIn wsX12_nextToken wsX12_isDigit := goodIn_r _ [16, 17, 18, 11, 12, 7, 13] rfl (by decide +kernel)
set_option maxRecDepth 20000 in
theorem gX12_nextToken_X12_isDigit : GoodIn wsX12_nextToken (va_wsS RX12 136 yX12_isDigit wsX12_isDigit) := goodIn_app (goodIn_of _ (by decide +kernel)) ggX12_nextToken_X12_isDigit
theorem dX12_nextToken_0 : decode cX12_nextToken 0 = .ok (.aload_n 0, 1) := by decide +kernel
theorem dX12_nextToken_1 : decode cX12_nextToken 1 = .ok (.aload_n 0, 1) := by decide +kernel
theorem dX12_nextToken_2 : decode cX12_nextToken 2 = .ok (.getfield 126, 3) := by decide +kernel
theorem dX12_nextToken_5 : decode cX12_nextToken 5 = .ok (.putfield 129, 3) := by decide +kernel
theorem dX12_nextToken_8 : decode cX12_nextToken 8 = .ok (.aload_n 0, 1) := by decide +kernel
theorem dX12_nextToken_9 : decode cX12_nextToken 9 = .ok (.getfield 129, 3) := by decide +kernel
theorem dX12_nextToken_12 : decode cX12_nextToken 12 = .ok (.aload_n 0, 1) := by decide +kernel
theorem dX12_nextToken_13 : decode cX12_nextToken 13 = .ok (.getfield 115, 3) := by decide +kernel
theorem dX12_nextToken_16 : decode cX12_nextToken 16 = .ok (.if_icmp .ge 30, 3) := by decide +kernel
theorem dX12_nextToken_19 : decode cX12_nextToken 19 = .ok (.aload_n 0, 1) := by decide +kernel
theorem dX12_nextToken_20 : decode cX12_nextToken 20 = .ok (.getfield 45, 3) := by decide +kernel
theorem dX12_nextToken_23 : decode cX12_nextToken 23 = .ok (.aload_n 0, 1) := by decide +kernel
theorem dX12_nextToken_24 : decode cX12_nextToken 24 = .ok (.getfield 129, 3) := by decide +kernel
theorem dX12_nextToken_27 : decode cX12_nextToken 27 = .ok (.iaload, 1) := by decide +kernel
theorem dX12_nextToken_28 : decode cX12_nextToken 28 = .ok (.bipush 32, 2) := by decide +kernel
theorem dX12_nextToken_30 : decode cX12_nextToken 30 = .ok (.if_icmp .ne 16, 3) := by decide +kernel
theorem dX12_nextToken_33 : decode cX12_nextToken 33 = .ok (.aload_n 0, 1) := by decide +kernel
theorem dX12_nextToken_34 : decode cX12_nextToken 34 = .ok (.dup, 1) := by decide +kernel
theorem dX12_nextToken_35 : decode cX12_nextToken 35 = .ok (.getfield 129, 3) := by decide +kernel
theorem dX12_nextToken_38 : decode cX12_nextToken 38 = .ok (.iconst 1, 1) := by decide +kernel
theorem dX12_nextToken_39 : decode cX12_nextToken 39 = .ok (.iadd, 1) := by decide +kernel
theorem dX12_nextToken_40 : decode cX12_nextToken 40 = .ok (.putfield 129, 3) := by decide +kernel
theorem dX12_nextToken_43 : decode cX12_nextToken 43 = .ok (.goto (-35), 3) := by decide +kernel
theorem dX12_nextToken_46 : decode cX12_nextToken 46 = .ok (.aload_n 0, 1) := by decide +kernel
theorem dX12_nextToken_47 : decode cX12_nextToken 47 = .ok (.aload_n 0, 1) := by decide +kernel
theorem dX12_nextToken_48 : decode cX12_nextToken 48 = .ok (.getfield 129, 3) := by decide +kernel
theorem dX12_nextToken_51 : decode cX12_nextToken 51 = .ok (.aload_n 0, 1) := by decide +kernel
theorem dX12_nextToken_52 : decode cX12_nextToken 52 = .ok (.getfield 115, 3) := by decide +kernel
theorem dX12_nextToken_55 : decode cX12_nextToken 55 = .ok (.if_icmp .ge 12, 3) := by decide +kernel
theorem dX12_nextToken_58 : decode cX12_nextToken 58 = .ok (.aload_n 0, 1) := by decide +kernel
theorem dX12_nextToken_59 : decode cX12_nextToken 59 = .ok (.getfield 129, 3) := by decide +kernel
theorem dX12_nextToken_62 : decode cX12_nextToken 62 = .ok (.iconst 1, 1) := by decide +kernel
theorem dX12_nextToken_63 : decode cX12_nextToken 63 = .ok (.iadd, 1) := by decide +kernel
theorem dX12_nextToken_64 : decode cX12_nextToken 64 = .ok (.goto 7, 3) := by decide +kernel
theorem dX12_nextToken_67 : decode cX12_nextToken 67 = .ok (.aload_n 0, 1) := by decide +kernel
theorem dX12_nextToken_68 : decode cX12_nextToken 68 = .ok (.getfield 129, 3) := by decide +kernel
theorem dX12_nextToken_71 : decode cX12_nextToken 71 = .ok (.putfield 126, 3) := by decide +kernel
theorem dX12_nextToken_74 : decode cX12_nextToken 74 = .ok (.aload_n 0, 1) := by decide +kernel
theorem dX12_nextToken_75 : decode cX12_nextToken 75 = .ok (.getfield 129, 3) := by decide +kernel
theorem dX12_nextToken_78 : decode cX12_nextToken 78 = .ok (.aload_n 0, 1) := by decide +kernel
theorem dX12_nextToken_79 : decode cX12_nextToken 79 = .ok (.getfield 115, 3) := by decide +kernel
theorem dX12_nextToken_82 : decode cX12_nextToken 82 = .ok (.if_icmp .ge 57, 3) := by decide +kernel
theorem dX12_nextToken_85 : decode cX12_nextToken 85 = .ok (.aload_n 0, 1) := by decide +kernel
theorem dX12_nextToken_86 : decode cX12_nextToken 86 = .ok (.getfield 45, 3) := by decide +kernel
theorem dX12_nextToken_89 : decode cX12_nextToken 89 = .ok (.aload_n 0, 1) := by decide +kernel
theorem dX12_nextToken_90 : decode cX12_nextToken 90 = .ok (.getfield 129, 3) := by decide +kernel
theorem dX12_nextToken_93 : decode cX12_nextToken 93 = .ok (.iaload, 1) := by decide +kernel
theorem dX12_nextToken_94 : decode cX12_nextToken 94 = .ok (.invokestatic 132, 3) := by decide +kernel
theorem dX12_nextToken_97 : decode cX12_nextToken 97 = .ok (.ifCond .eq 42, 3) := by decide +kernel
theorem dX12_nextToken_100 : decode cX12_nextToken 100 = .ok (.aload_n 0, 1) := by decide +kernel
theorem dX12_nextToken_101 : decode cX12_nextToken 101 = .ok (.getfield 126, 3) := by decide +kernel
theorem dX12_nextToken_104 : decode cX12_nextToken 104 = .ok (.aload_n 0, 1) := by decide +kernel
theorem dX12_nextToken_105 : decode cX12_nextToken 105 = .ok (.getfield 115, 3) := by decide +kernel
theorem dX12_nextToken_108 : decode cX12_nextToken 108 = .ok (.if_icmp .ge 96, 3) := by decide +kernel
theorem dX12_nextToken_111 : decode cX12_nextToken 111 = .ok (.aload_n 0, 1) := by decide +kernel
theorem dX12_nextToken_112 : decode cX12_nextToken 112 = .ok (.getfield 45, 3) := by decide +kernel
theorem dX12_nextToken_115 : decode cX12_nextToken 115 = .ok (.aload_n 0, 1) := by decide +kernel
theorem dX12_nextToken_116 : decode cX12_nextToken 116 = .ok (.getfield 126, 3) := by decide +kernel
theorem dX12_nextToken_119 : decode cX12_nextToken 119 = .ok (.iaload, 1) := by decide +kernel
theorem dX12_nextToken_120 : decode cX12_nextToken 120 = .ok (.invokestatic 132, 3) := by decide +kernel
theorem dX12_nextToken_123 : decode cX12_nextToken 123 = .ok (.ifCond .eq 81, 3) := by decide +kernel
theorem dX12_nextToken_126 : decode cX12_nextToken 126 = .ok (.aload_n 0, 1) := by decide +kernel
theorem dX12_nextToken_127 : decode cX12_nextToken 127 = .ok (.dup, 1) := by decide +kernel
theorem dX12_nextToken_128 : decode cX12_nextToken 128 = .ok (.getfield 126, 3) := by decide +kernel
theorem dX12_nextToken_131 : decode cX12_nextToken 131 = .ok (.iconst 1, 1) := by decide +kernel
theorem dX12_nextToken_132 : decode cX12_nextToken 132 = .ok (.iadd, 1) := by decide +kernel
theorem dX12_nextToken_133 : decode cX12_nextToken 133 = .ok (.putfield 126, 3) := by decide +kernel
theorem dX12_nextToken_136 : decode cX12_nextToken 136 = .ok (.goto (-36), 3) := by decide +kernel
theorem dX12_nextToken_139 : decode cX12_nextToken 139 = .ok (.aload_n 0, 1) := by decide +kernel
theorem dX12_nextToken_140 : decode cX12_nextToken 140 = .ok (.getfield 129, 3) := by decide +kernel
theorem dX12_nextToken_143 : decode cX12_nextToken 143 = .ok (.aload_n 0, 1) := by decide +kernel
theorem dX12_nextToken_144 : decode cX12_nextToken 144 = .ok (.getfield 115, 3) := by decide +kernel
theorem dX12_nextToken_147 : decode cX12_nextToken 147 = .ok (.if_icmp .ge 57, 3) := by decide +kernel
theorem dX12_nextToken_150 : decode cX12_nextToken 150 = .ok (.aload_n 0, 1) := by decide +kernel
theorem dX12_nextToken_151 : decode cX12_nextToken 151 = .ok (.getfield 45, 3) := by decide +kernel
theorem dX12_nextToken_154 : decode cX12_nextToken 154 = .ok (.aload_n 0, 1) := by decide +kernel
theorem dX12_nextToken_155 : decode cX12_nextToken 155 = .ok (.getfield 129, 3) := by decide +kernel
theorem dX12_nextToken_158 : decode cX12_nextToken 158 = .ok (.iaload, 1) := by decide +kernel
theorem dX12_nextToken_159 : decode cX12_nextToken 159 = .ok (.invokestatic 136, 3) := by decide +kernel
theorem dX12_nextToken_162 : decode cX12_nextToken 162 = .ok (.ifCond .eq 42, 3) := by decide +kernel
theorem dX12_nextToken_165 : decode cX12_nextToken 165 = .ok (.aload_n 0, 1) := by decide +kernel
theorem dX12_nextToken_166 : decode cX12_nextToken 166 = .ok (.getfield 126, 3) := by decide +kernel
theorem dX12_nextToken_169 : decode cX12_nextToken 169 = .ok (.aload_n 0, 1) := by decide +kernel
theorem dX12_nextToken_170 : decode cX12_nextToken 170 = .ok (.getfield 115, 3) := by decide +kernel
theorem dX12_nextToken_173 : decode cX12_nextToken 173 = .ok (.if_icmp .ge 31, 3) := by decide +kernel
theorem dX12_nextToken_176 : decode cX12_nextToken 176 = .ok (.aload_n 0, 1) := by decide +kernel
theorem dX12_nextToken_177 : decode cX12_nextToken 177 = .ok (.getfield 45, 3) := by decide +kernel
theorem dX12_nextToken_180 : decode cX12_nextToken 180 = .ok (.aload_n 0, 1) := by decide +kernel
theorem dX12_nextToken_181 : decode cX12_nextToken 181 = .ok (.getfield 126, 3) := by decide +kernel
theorem dX12_nextToken_184 : decode cX12_nextToken 184 = .ok (.iaload, 1) := by decide +kernel
theorem dX12_nextToken_185 : decode cX12_nextToken 185 = .ok (.invokestatic 136, 3) := by decide +kernel
theorem dX12_nextToken_188 : decode cX12_nextToken 188 = .ok (.ifCond .eq 16, 3) := by decide +kernel
theorem dX12_nextToken_191 : decode cX12_nextToken 191 = .ok (.aload_n 0, 1) := by decide +kernel
theorem dX12_nextToken_192 : decode cX12_nextToken 192 = .ok (.dup, 1) := by decide +kernel
theorem dX12_nextToken_193 : decode cX12_nextToken 193 = .ok (.getfield 126, 3) := by decide +kernel
theorem dX12_nextToken_196 : decode cX12_nextToken 196 = .ok (.iconst 1, 1) := by decide +kernel
theorem dX12_nextToken_197 : decode cX12_nextToken 197 = .ok (.iadd, 1) := by decide +kernel
theorem dX12_nextToken_198 : decode cX12_nextToken 198 = .ok (.putfield 126, 3) := by decide +kernel
theorem dX12_nextToken_201 : decode cX12_nextToken 201 = .ok (.goto (-36), 3) := by decide +kernel
theorem dX12_nextToken_204 : decode cX12_nextToken 204 = .ok (.return_, 1) := by decide +kernel
theorem dX12_isWord_0 : decode cX12_isWord 0 = .ok (.aload_n 0, 1) := by decide +kernel
theorem dX12_isWord_1 : decode cX12_isWord 1 = .ok (.getfield 126, 3) := by decide +kernel
theorem dX12_isWord_4 : decode cX12_isWord 4 = .ok (.aload_n 0, 1) := by decide +kernel
theorem dX12_isWord_5 : decode cX12_isWord 5 = .ok (.getfield 129, 3) := by decide +kernel
theorem dX12_isWord_8 : decode cX12_isWord 8 = .ok (.isub, 1) := by decide +kernel
theorem dX12_isWord_9 : decode cX12_isWord 9 = .ok (.aload_n 1, 1) := by decide +kernel
theorem dX12_isWord_10 : decode cX12_isWord 10 = .ok (.arraylength, 1) := by decide +kernel
theorem dX12_isWord_11 : decode cX12_isWord 11 = .ok (.if_icmp .ne 7, 3) := by decide +kernel
theorem dX12_isWord_14 : decode cX12_isWord 14 = .ok (.iconst 1, 1) := by decide +kernel
theorem dX12_isWord_15 : decode cX12_isWord 15 = .ok (.goto 4, 3) := by decide +kernel
theorem dX12_isWord_18 : decode cX12_isWord 18 = .ok (.iconst 0, 1) := by decide +kernel
theorem dX12_isWord_19 : decode cX12_isWord 19 = .ok (.istore_n 2, 1) := by decide +kernel
theorem dX12_isWord_20 : decode cX12_isWord 20 = .ok (.iconst 0, 1) := by decide +kernel
theorem dX12_isWord_21 : decode cX12_isWord 21 = .ok (.istore_n 3, 1) := by decide +kernel
theorem dX12_isWord_22 : decode cX12_isWord 22 = .ok (.iload_n 3, 1) := by decide +kernel
theorem dX12_isWord_23 : decode cX12_isWord 23 = .ok (.aload_n 1, 1) := by decide +kernel
theorem dX12_isWord_24 : decode cX12_isWord 24 = .ok (.arraylength, 1) := by decide +kernel
theorem dX12_isWord_25 : decode cX12_isWord 25 = .ok (.if_icmp .ge 36, 3) := by decide +kernel
theorem dX12_isWord_28 : decode cX12_isWord 28 = .ok (.iload_n 2, 1) := by decide +kernel
theorem dX12_isWord_29 : decode cX12_isWord 29 = .ok (.ifCond .eq 32, 3) := by decide +kernel
theorem dX12_isWord_32 : decode cX12_isWord 32 = .ok (.aload_n 0, 1) := by decide +kernel
theorem dX12_isWord_33 : decode cX12_isWord 33 = .ok (.getfield 45, 3) := by decide +kernel
theorem dX12_isWord_36 : decode cX12_isWord 36 = .ok (.aload_n 0, 1) := by decide +kernel
theorem dX12_isWord_37 : decode cX12_isWord 37 = .ok (.getfield 129, 3) := by decide +kernel
theorem dX12_isWord_40 : decode cX12_isWord 40 = .ok (.iload_n 3, 1) := by decide +kernel
theorem dX12_isWord_41 : decode cX12_isWord 41 = .ok (.iadd, 1) := by decide +kernel
theorem dX12_isWord_42 : decode cX12_isWord 42 = .ok (.iaload, 1) := by decide +kernel
theorem dX12_isWord_43 : decode cX12_isWord 43 = .ok (.aload_n 1, 1) := by decide +kernel
theorem dX12_isWord_44 : decode cX12_isWord 44 = .ok (.iload_n 3, 1) := by decide +kernel
theorem dX12_isWord_45 : decode cX12_isWord 45 = .ok (.iaload, 1) := by decide +kernel
theorem dX12_isWord_46 : decode cX12_isWord 46 = .ok (.if_icmp .ne 7, 3) := by decide +kernel
theorem dX12_isWord_49 : decode cX12_isWord 49 = .ok (.iconst 1, 1) := by decide +kernel
theorem dX12_isWord_50 : decode cX12_isWord 50 = .ok (.goto 4, 3) := by decide +kernel
theorem dX12_isWord_53 : decode cX12_isWord 53 = .ok (.iconst 0, 1) := by decide +kernel
theorem dX12_isWord_54 : decode cX12_isWord 54 = .ok (.istore_n 2, 1) := by decide +kernel
theorem dX12_isWord_55 : decode cX12_isWord 55 = .ok (.iinc 3 1, 3) := by decide +kernel
theorem dX12_isWord_58 : decode cX12_isWord 58 = .ok (.goto (-36), 3) := by decide +kernel
theorem dX12_isWord_61 : decode cX12_isWord 61 = .ok (.iload_n 2, 1) := by decide +kernel
theorem dX12_isWord_62 : decode cX12_isWord 62 = .ok (.ireturn, 1) := by decide +kernel
set_option maxRecDepth 20000 in
theorem ggX12_number_X12_isDigit : GoodIn wsX12_number wsX12_isDigit := goodIn_r _ [9, 10, 11, 12, 13, 8, 14] rfl (by decide +kernel)
set_option maxRecDepth 20000 in
theorem gX12_number_X12_isDigit : GoodIn wsX12_number (va_wsS RX12 136 yX12_isDigit wsX12_isDigit) := goodIn_app (goodIn_of _ (by decide +kernel)) ggX12_number_X12_isDigit
set_option maxRecDepth 20000 in
theorem ggX12_number_X12_in : GoodIn wsX12_number wsX12_in := goodIn_r _ [14] rfl (by decide +kernel)
set_option maxRecDepth 20000 in
theorem gX12_number_X12_in : GoodIn wsX12_number (va_wsS RX12 111 yX12_in wsX12_in) := goodIn_app (goodIn_of _ (by decide +kernel)) ggX12_number_X12_in
set_option maxRecDepth 20000 in
theorem ggX12_number_X12_nextToken : GoodIn wsX12_number wsX12_nextToken := goodIn_r _ [18, 4, 1, 2, 3, 19, 20, 8, 21, 22, 23, 12, 13, 14, 6, 7, 9, 10, 11, 24, 25, 26, 27, 28, 29, 30, 31, 32, 33, 34, 35, 36, 37, 38, 39, 40, 41, 42, 43, 44, 45, 46, 47, 48, 49, 50, 51, 52, 53, 54, 55, 56, 57, 58, 59, 60, 61, 62, 63, 64, 65, 66, 67, 68] rfl (by decide +kernel)
set_option maxRecDepth 20000 in
theorem gX12_number_X12_nextToken : GoodIn wsX12_number (wsV RX12 139 RX12 yX12_nextToken wsX12_nextToken) := goodIn_app (goodIn_of _ (by decide +kernel)) ggX12_number_X12_nextToken
theorem dX12_number_0 : decode cX12_number 0 = .ok (.aload_n 0, 1) := by decide +kernel
theorem dX12_number_1 : decode cX12_number 1 = .ok (.getfield 129, 3) := by decide +kernel
theorem dX12_number_4 : decode cX12_number 4 = .ok (.aload_n 0, 1) := by decide +kernel
theorem dX12_number_5 : decode cX12_number 5 = .ok (.getfield 115, 3) := by decide +kernel
theorem dX12_number_8 : decode cX12_number 8 = .ok (.if_icmp .eq 31, 3) := by decide +kernel
theorem dX12_number_11 : decode cX12_number 11 = .ok (.aload_n 0, 1) := by decide +kernel
theorem dX12_number_12 : decode cX12_number 12 = .ok (.getfield 45, 3) := by decide +kernel
theorem dX12_number_15 : decode cX12_number 15 = .ok (.aload_n 0, 1) := by decide +kernel
theorem dX12_number_16 : decode cX12_number 16 = .ok (.getfield 129, 3) := by decide +kernel
theorem dX12_number_19 : decode cX12_number 19 = .ok (.iaload, 1) := by decide +kernel
theorem dX12_number_20 : decode cX12_number 20 = .ok (.invokestatic 136, 3) := by decide +kernel
theorem dX12_number_23 : decode cX12_number 23 = .ok (.ifCond .eq 16, 3) := by decide +kernel
theorem dX12_number_26 : decode cX12_number 26 = .ok (.aload_n 0, 1) := by decide +kernel
theorem dX12_number_27 : decode cX12_number 27 = .ok (.getfield 126, 3) := by decide +kernel
theorem dX12_number_30 : decode cX12_number 30 = .ok (.aload_n 0, 1) := by decide +kernel
theorem dX12_number_31 : decode cX12_number 31 = .ok (.getfield 129, 3) := by decide +kernel
theorem dX12_number_34 : decode cX12_number 34 = .ok (.isub, 1) := by decide +kernel
theorem dX12_number_35 : decode cX12_number 35 = .ok (.iconst 3, 1) := by decide +kernel
theorem dX12_number_36 : decode cX12_number 36 = .ok (.if_icmp .le 5, 3) := by decide +kernel
theorem dX12_number_39 : decode cX12_number 39 = .ok (.iconst 0, 1) := by decide +kernel
theorem dX12_number_40 : decode cX12_number 40 = .ok (.ireturn, 1) := by decide +kernel
theorem dX12_number_41 : decode cX12_number 41 = .ok (.iconst 0, 1) := by decide +kernel
theorem dX12_number_42 : decode cX12_number 42 = .ok (.istore 4, 2) := by decide +kernel
theorem dX12_number_44 : decode cX12_number 44 = .ok (.aload_n 0, 1) := by decide +kernel
theorem dX12_number_45 : decode cX12_number 45 = .ok (.getfield 129, 3) := by decide +kernel
theorem dX12_number_48 : decode cX12_number 48 = .ok (.istore 5, 2) := by decide +kernel
theorem dX12_number_50 : decode cX12_number 50 = .ok (.iload 5, 2) := by decide +kernel
