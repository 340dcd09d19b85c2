theorem dX11_waysIn_38 : decode cX11_waysIn 38 = .ok (.if_icmp .gt 101, 3) := by decide +kernel
theorem dX11_waysIn_41 : decode cX11_waysIn 41 = .ok (.iconst 0, 1) := by decide +kernel
theorem dX11_waysIn_42 : decode cX11_waysIn 42 = .ok (.istore 5, 2) := by decide +kernel
theorem dX11_waysIn_44 : decode cX11_waysIn 44 = .ok (.iload 5, 2) := by decide +kernel
theorem dX11_waysIn_46 : decode cX11_waysIn 46 = .ok (.iload_n 2, 1) := by decide +kernel
theorem dX11_waysIn_47 : decode cX11_waysIn 47 = .ok (.if_icmp .gt 86, 3) := by decide +kernel
theorem dX11_waysIn_50 : decode cX11_waysIn 50 = .ok (.iload_n 3, 1) := by decide +kernel
theorem dX11_waysIn_51 : decode cX11_waysIn 51 = .ok (.ifCond .eq 7, 3) := by decide +kernel
theorem dX11_waysIn_54 : decode cX11_waysIn 54 = .ok (.iconst 2, 1) := by decide +kernel
theorem dX11_waysIn_55 : decode cX11_waysIn 55 = .ok (.goto 4, 3) := by decide +kernel
theorem dX11_waysIn_58 : decode cX11_waysIn 58 = .ok (.iconst 0, 1) := by decide +kernel
theorem dX11_waysIn_59 : decode cX11_waysIn 59 = .ok (.istore 6, 2) := by decide +kernel
theorem dX11_waysIn_61 : decode cX11_waysIn 61 = .ok (.iload 6, 2) := by decide +kernel
theorem dX11_waysIn_63 : decode cX11_waysIn 63 = .ok (.iload 5, 2) := by decide +kernel
theorem dX11_waysIn_65 : decode cX11_waysIn 65 = .ok (.if_icmp .gt 62, 3) := by decide +kernel
theorem dX11_waysIn_68 : decode cX11_waysIn 68 = .ok (.aload_n 0, 1) := by decide +kernel
theorem dX11_waysIn_69 : decode cX11_waysIn 69 = .ok (.getfield 82, 3) := by decide +kernel
theorem dX11_waysIn_72 : decode cX11_waysIn 72 = .ok (.bipush 17, 2) := by decide +kernel
theorem dX11_waysIn_74 : decode cX11_waysIn 74 = .ok (.iload 4, 2) := by decide +kernel
theorem dX11_waysIn_76 : decode cX11_waysIn 76 = .ok (.imul, 1) := by decide +kernel
theorem dX11_waysIn_77 : decode cX11_waysIn 77 = .ok (.iload 5, 2) := by decide +kernel
theorem dX11_waysIn_79 : decode cX11_waysIn 79 = .ok (.iadd, 1) := by decide +kernel
theorem dX11_waysIn_80 : decode cX11_waysIn 80 = .ok (.dup2, 1) := by decide +kernel
theorem dX11_waysIn_81 : decode cX11_waysIn 81 = .ok (.laload, 1) := by decide +kernel
theorem dX11_waysIn_82 : decode cX11_waysIn 82 = .ok (.iload 6, 2) := by decide +kernel
theorem dX11_waysIn_84 : decode cX11_waysIn 84 = .ok (.iconst 1, 1) := by decide +kernel
theorem dX11_waysIn_85 : decode cX11_waysIn 85 = .ok (.if_icmp .ne 7, 3) := by decide +kernel
theorem dX11_waysIn_88 : decode cX11_waysIn 88 = .ok (.lconst 0, 1) := by decide +kernel
theorem dX11_waysIn_89 : decode cX11_waysIn 89 = .ok (.goto 30, 3) := by decide +kernel
theorem dX11_waysIn_92 : decode cX11_waysIn 92 = .ok (.aload_n 0, 1) := by decide +kernel
theorem dX11_waysIn_93 : decode cX11_waysIn 93 = .ok (.iload 5, 2) := by decide +kernel
theorem dX11_waysIn_95 : decode cX11_waysIn 95 = .ok (.iload 6, 2) := by decide +kernel
theorem dX11_waysIn_97 : decode cX11_waysIn 97 = .ok (.invokevirtual 269, 3) := by decide +kernel
theorem dX11_waysIn_100 : decode cX11_waysIn 100 = .ok (.aload_n 0, 1) := by decide +kernel
theorem dX11_waysIn_101 : decode cX11_waysIn 101 = .ok (.getfield 82, 3) := by decide +kernel
theorem dX11_waysIn_104 : decode cX11_waysIn 104 = .ok (.bipush 17, 2) := by decide +kernel
theorem dX11_waysIn_106 : decode cX11_waysIn 106 = .ok (.iload 4, 2) := by decide +kernel
theorem dX11_waysIn_108 : decode cX11_waysIn 108 = .ok (.iconst 1, 1) := by decide +kernel
theorem dX11_waysIn_109 : decode cX11_waysIn 109 = .ok (.isub, 1) := by decide +kernel
theorem dX11_waysIn_110 : decode cX11_waysIn 110 = .ok (.imul, 1) := by decide +kernel
theorem dX11_waysIn_111 : decode cX11_waysIn 111 = .ok (.iload 5, 2) := by decide +kernel
theorem dX11_waysIn_113 : decode cX11_waysIn 113 = .ok (.iadd, 1) := by decide +kernel
theorem dX11_waysIn_114 : decode cX11_waysIn 114 = .ok (.iload 6, 2) := by decide +kernel
theorem dX11_waysIn_116 : decode cX11_waysIn 116 = .ok (.isub, 1) := by decide +kernel
theorem dX11_waysIn_117 : decode cX11_waysIn 117 = .ok (.laload, 1) := by decide +kernel
theorem dX11_waysIn_118 : decode cX11_waysIn 118 = .ok (.lmul, 1) := by decide +kernel
theorem dX11_waysIn_119 : decode cX11_waysIn 119 = .ok (.ladd, 1) := by decide +kernel
theorem dX11_waysIn_120 : decode cX11_waysIn 120 = .ok (.lastore, 1) := by decide +kernel
theorem dX11_waysIn_121 : decode cX11_waysIn 121 = .ok (.iinc 6 1, 3) := by decide +kernel
theorem dX11_waysIn_124 : decode cX11_waysIn 124 = .ok (.goto (-63), 3) := by decide +kernel
theorem dX11_waysIn_127 : decode cX11_waysIn 127 = .ok (.iinc 5 1, 3) := by decide +kernel
theorem dX11_waysIn_130 : decode cX11_waysIn 130 = .ok (.goto (-86), 3) := by decide +kernel
theorem dX11_waysIn_133 : decode cX11_waysIn 133 = .ok (.iinc 4 1, 3) := by decide +kernel
theorem dX11_waysIn_136 : decode cX11_waysIn 136 = .ok (.goto (-101), 3) := by decide +kernel
theorem dX11_waysIn_139 : decode cX11_waysIn 139 = .ok (.aload_n 0, 1) := by decide +kernel
theorem dX11_waysIn_140 : decode cX11_waysIn 140 = .ok (.getfield 82, 3) := by decide +kernel
theorem dX11_waysIn_143 : decode cX11_waysIn 143 = .ok (.bipush 17, 2) := by decide +kernel
theorem dX11_waysIn_145 : decode cX11_waysIn 145 = .ok (.iload_n 1, 1) := by decide +kernel
theorem dX11_waysIn_146 : decode cX11_waysIn 146 = .ok (.imul, 1) := by decide +kernel
theorem dX11_waysIn_147 : decode cX11_waysIn 147 = .ok (.iload_n 2, 1) := by decide +kernel
theorem dX11_waysIn_148 : decode cX11_waysIn 148 = .ok (.iadd, 1) := by decide +kernel
theorem dX11_waysIn_149 : decode cX11_waysIn 149 = .ok (.laload, 1) := by decide +kernel
theorem dX11_waysIn_150 : decode cX11_waysIn 150 = .ok (.lreturn, 1) := by decide +kernel
theorem dX11_common_0 : decode cX11_common 0 = .ok (.lload_n 0, 1) := by decide +kernel
theorem dX11_common_1 : decode cX11_common 1 = .ok (.lstore 4, 2) := by decide +kernel
theorem dX11_common_3 : decode cX11_common 3 = .ok (.lload_n 2, 1) := by decide +kernel
theorem dX11_common_4 : decode cX11_common 4 = .ok (.lstore 6, 2) := by decide +kernel
theorem dX11_common_6 : decode cX11_common 6 = .ok (.lload 6, 2) := by decide +kernel
theorem dX11_common_8 : decode cX11_common 8 = .ok (.lconst 0, 1) := by decide +kernel
theorem dX11_common_9 : decode cX11_common 9 = .ok (.lcmp, 1) := by decide +kernel
theorem dX11_common_10 : decode cX11_common 10 = .ok (.ifCond .eq 21, 3) := by decide +kernel
theorem dX11_common_13 : decode cX11_common 13 = .ok (.lload 4, 2) := by decide +kernel
theorem dX11_common_15 : decode cX11_common 15 = .ok (.lload 6, 2) := by decide +kernel
theorem dX11_common_17 : decode cX11_common 17 = .ok (.lrem, 1) := by decide +kernel
theorem dX11_common_18 : decode cX11_common 18 = .ok (.lstore 8, 2) := by decide +kernel
theorem dX11_common_20 : decode cX11_common 20 = .ok (.lload 6, 2) := by decide +kernel
theorem dX11_common_22 : decode cX11_common 22 = .ok (.lstore 4, 2) := by decide +kernel
theorem dX11_common_24 : decode cX11_common 24 = .ok (.lload 8, 2) := by decide +kernel
theorem dX11_common_26 : decode cX11_common 26 = .ok (.lstore 6, 2) := by decide +kernel
theorem dX11_common_28 : decode cX11_common 28 = .ok (.goto (-22), 3) := by decide +kernel
theorem dX11_common_31 : decode cX11_common 31 = .ok (.lload 4, 2) := by decide +kernel
theorem dX11_common_33 : decode cX11_common 33 = .ok (.lreturn, 1) := by decide +kernel
theorem dX11_power_0 : decode cX11_power 0 = .ok (.lconst 1, 1) := by decide +kernel
theorem dX11_power_1 : decode cX11_power 1 = .ok (.lstore_n 3, 1) := by decide +kernel
theorem dX11_power_2 : decode cX11_power 2 = .ok (.iconst 0, 1) := by decide +kernel
theorem dX11_power_3 : decode cX11_power 3 = .ok (.istore 5, 2) := by decide +kernel
theorem dX11_power_5 : decode cX11_power 5 = .ok (.iload 5, 2) := by decide +kernel
theorem dX11_power_7 : decode cX11_power 7 = .ok (.iload_n 2, 1) := by decide +kernel
theorem dX11_power_8 : decode cX11_power 8 = .ok (.if_icmp .ge 13, 3) := by decide +kernel
theorem dX11_power_11 : decode cX11_power 11 = .ok (.lload_n 3, 1) := by decide +kernel
theorem dX11_power_12 : decode cX11_power 12 = .ok (.lload_n 0, 1) := by decide +kernel
theorem dX11_power_13 : decode cX11_power 13 = .ok (.lmul, 1) := by decide +kernel
theorem dX11_power_14 : decode cX11_power 14 = .ok (.lstore_n 3, 1) := by decide +kernel
theorem dX11_power_15 : decode cX11_power 15 = .ok (.iinc 5 1, 3) := by decide +kernel
theorem dX11_power_18 : decode cX11_power 18 = .ok (.goto (-13), 3) := by decide +kernel
theorem dX11_power_21 : decode cX11_power 21 = .ok (.lload_n 3, 1) := by decide +kernel
theorem dX11_power_22 : decode cX11_power 22 = .ok (.lreturn, 1) := by decide +kernel
set_option maxRecDepth 20000 in
theorem ggX11_told_X11_common : GoodIn wsX11_told wsX11_common := goodIn_r _ [4] (by decide +kernel) (by decide +kernel)
set_option maxRecDepth 20000 in
theorem gX11_told_X11_common : GoodIn wsX11_told (va_wsS RX11 273 yX11_common wsX11_common) := goodIn_app (goodIn_of _ (by decide +kernel)) ggX11_told_X11_common
theorem dX11_told_0 : decode cX11_told 0 = .ok (.lload_n 0, 1) := by decide +kernel
theorem dX11_told_1 : decode cX11_told 1 = .ok (.lload_n 2, 1) := by decide +kernel
theorem dX11_told_2 : decode cX11_told 2 = .ok (.invokestatic 273, 3) := by decide +kernel
theorem dX11_told_5 : decode cX11_told 5 = .ok (.lstore 5, 2) := by decide +kernel
theorem dX11_told_7 : decode cX11_told 7 = .ok (.iload 4, 2) := by decide +kernel
theorem dX11_told_9 : decode cX11_told 9 = .ok (.ifCond .ne 10, 3) := by decide +kernel
theorem dX11_told_12 : decode cX11_told 12 = .ok (.lload_n 0, 1) := by decide +kernel
theorem dX11_told_13 : decode cX11_told 13 = .ok (.lload 5, 2) := by decide +kernel
theorem dX11_told_15 : decode cX11_told 15 = .ok (.ldiv, 1) := by decide +kernel
theorem dX11_told_16 : decode cX11_told 16 = .ok (.goto 7, 3) := by decide +kernel
theorem dX11_told_19 : decode cX11_told 19 = .ok (.lload_n 2, 1) := by decide +kernel
theorem dX11_told_20 : decode cX11_told 20 = .ok (.lload 5, 2) := by decide +kernel
theorem dX11_told_22 : decode cX11_told 22 = .ok (.ldiv, 1) := by decide +kernel
theorem dX11_told_23 : decode cX11_told 23 = .ok (.lreturn, 1) := by decide +kernel
theorem dX11_rows_0 : decode cX11_rows 0 = .ok (.lconst 1, 1) := by decide +kernel
theorem dX11_rows_1 : decode cX11_rows 1 = .ok (.lstore_n 2, 1) := by decide +kernel
theorem dX11_rows_2 : decode cX11_rows 2 = .ok (.iconst 0, 1) := by decide +kernel
theorem dX11_rows_3 : decode cX11_rows 3 = .ok (.istore 4, 2) := by decide +kernel
theorem dX11_rows_5 : decode cX11_rows 5 = .ok (.iload 4, 2) := by decide +kernel
theorem dX11_rows_7 : decode cX11_rows 7 = .ok (.iload_n 1, 1) := by decide +kernel
theorem dX11_rows_8 : decode cX11_rows 8 = .ok (.if_icmp .ge 17, 3) := by decide +kernel
theorem dX11_rows_11 : decode cX11_rows 11 = .ok (.lload_n 2, 1) := by decide +kernel
theorem dX11_rows_12 : decode cX11_rows 12 = .ok (.iload_n 0, 1) := by decide +kernel
theorem dX11_rows_13 : decode cX11_rows 13 = .ok (.iload 4, 2) := by decide +kernel
theorem dX11_rows_15 : decode cX11_rows 15 = .ok (.isub, 1) := by decide +kernel
theorem dX11_rows_16 : decode cX11_rows 16 = .ok (.i2l, 1) := by decide +kernel
theorem dX11_rows_17 : decode cX11_rows 17 = .ok (.lmul, 1) := by decide +kernel
theorem dX11_rows_18 : decode cX11_rows 18 = .ok (.lstore_n 2, 1) := by decide +kernel
theorem dX11_rows_19 : decode cX11_rows 19 = .ok (.iinc 4 1, 3) := by decide +kernel
theorem dX11_rows_22 : decode cX11_rows 22 = .ok (.goto (-17), 3) := by decide +kernel
theorem dX11_rows_25 : decode cX11_rows 25 = .ok (.lload_n 2, 1) := by decide +kernel
theorem dX11_rows_26 : decode cX11_rows 26 = .ok (.lreturn, 1) := by decide +kernel
set_option maxRecDepth 20000 in
theorem ggX11_alone_X11_in : GoodIn wsX11_alone wsX11_in := goodIn_r _ [6] (by decide +kernel) (by decide +kernel)
set_option maxRecDepth 20000 in
theorem gX11_alone_X11_in : GoodIn wsX11_alone (va_wsS RX11 103 yX11_in wsX11_in) := goodIn_app (goodIn_of _ (by decide +kernel)) ggX11_alone_X11_in
set_option maxRecDepth 20000 in
theorem ggX11_alone_X11_chooses : GoodIn wsX11_alone wsX11_chooses := goodIn_r _ [10, 11, 29, 30, 31, 32, 33, 34, 35, 36, 37, 38, 39, 40, 41, 42, 43, 44, 45, 46, 47, 48, 49, 50, 51, 52, 53, 54, 55, 56, 57, 58, 59, 60, 61, 62, 63, 64, 65, 66, 67, 68, 69, 70, 71, 72, 73, 74, 75, 76] (by decide +kernel) (by decide +kernel)
set_option maxRecDepth 20000 in
theorem gX11_alone_X11_chooses : GoodIn wsX11_alone (wsV RX11 269 RX11 yX11_chooses wsX11_chooses) := goodIn_app (goodIn_of _ (by decide +kernel)) ggX11_alone_X11_chooses
set_option maxRecDepth 20000 in
theorem ggX11_alone_X11_rows : GoodIn wsX11_alone wsX11_rows := goodIn_r _ [14] (by decide +kernel) (by decide +kernel)
set_option maxRecDepth 20000 in
theorem gX11_alone_X11_rows : GoodIn wsX11_alone (va_wsS RX11 277 yX11_rows wsX11_rows) := goodIn_app (goodIn_of _ (by decide +kernel)) ggX11_alone_X11_rows
set_option maxRecDepth 20000 in
theorem ggX11_alone_X11_waysIn : GoodIn wsX11_alone wsX11_waysIn := goodIn_r _ [18, 19, 7, 8, 9, 5, 10, 11, 29, 30, 31, 32, 33, 34, 35, 36, 37, 38, 39, 40, 41, 42, 43, 44, 45, 46, 47, 48, 49, 50, 51, 52, 53, 54, 55, 56, 57, 58, 59, 60, 61, 62, 63, 64, 65, 66, 67, 68, 69, 70, 71, 72, 73, 74, 75, 76] (by decide +kernel) (by decide +kernel)
set_option maxRecDepth 20000 in
theorem gX11_alone_X11_waysIn : GoodIn wsX11_alone (wsV RX11 280 RX11 yX11_waysIn wsX11_waysIn) := goodIn_app (goodIn_of _ (by decide +kernel)) ggX11_alone_X11_waysIn
set_option maxRecDepth 20000 in
theorem ggX11_alone_X11_power : GoodIn wsX11_alone wsX11_power := goodIn_r _ [22] (by decide +kernel) (by decide +kernel)
set_option maxRecDepth 20000 in
theorem gX11_alone_X11_power : GoodIn wsX11_alone (va_wsS RX11 284 yX11_power wsX11_power) := goodIn_app (goodIn_of _ (by decide +kernel)) ggX11_alone_X11_power
set_option maxRecDepth 20000 in
theorem ggX11_alone_X11_told : GoodIn wsX11_alone wsX11_told := goodIn_r _ [25, 26, 27, 5, 28] (by decide +kernel) (by decide +kernel)
set_option maxRecDepth 20000 in
theorem gX11_alone_X11_told : GoodIn wsX11_alone (va_wsS RX11 288 yX11_told wsX11_told) := goodIn_app (goodIn_of _ (by decide +kernel)) ggX11_alone_X11_told
theorem dX11_alone_0 : decode cX11_alone 0 = .ok (.iload_n 1, 1) := by decide +kernel
theorem dX11_alone_1 : decode cX11_alone 1 = .ok (.i2l, 1) := by decide +kernel
theorem dX11_alone_2 : decode cX11_alone 2 = .ok (.lconst 1, 1) := by decide +kernel
theorem dX11_alone_3 : decode cX11_alone 3 = .ok (.ldc2_w 112, 3) := by decide +kernel
theorem dX11_alone_6 : decode cX11_alone 6 = .ok (.invokestatic 103, 3) := by decide +kernel
theorem dX11_alone_9 : decode cX11_alone 9 = .ok (.ifCond .eq 38, 3) := by decide +kernel
theorem dX11_alone_12 : decode cX11_alone 12 = .ok (.iload_n 2, 1) := by decide +kernel
theorem dX11_alone_13 : decode cX11_alone 13 = .ok (.i2l, 1) := by decide +kernel
theorem dX11_alone_14 : decode cX11_alone 14 = .ok (.lconst 1, 1) := by decide +kernel
theorem dX11_alone_15 : decode cX11_alone 15 = .ok (.ldc2_w 112, 3) := by decide +kernel
theorem dX11_alone_18 : decode cX11_alone 18 = .ok (.invokestatic 103, 3) := by decide +kernel
theorem dX11_alone_21 : decode cX11_alone 21 = .ok (.ifCond .eq 26, 3) := by decide +kernel
theorem dX11_alone_24 : decode cX11_alone 24 = .ok (.iload_n 3, 1) := by decide +kernel
theorem dX11_alone_25 : decode cX11_alone 25 = .ok (.i2l, 1) := by decide +kernel
theorem dX11_alone_26 : decode cX11_alone 26 = .ok (.lconst 0, 1) := by decide +kernel
theorem dX11_alone_27 : decode cX11_alone 27 = .ok (.ldc2_w 112, 3) := by decide +kernel
theorem dX11_alone_30 : decode cX11_alone 30 = .ok (.invokestatic 103, 3) := by decide +kernel
theorem dX11_alone_33 : decode cX11_alone 33 = .ok (.ifCond .eq 14, 3) := by decide +kernel
theorem dX11_alone_36 : decode cX11_alone 36 = .ok (.iload 4, 2) := by decide +kernel
theorem dX11_alone_38 : decode cX11_alone 38 = .ok (.i2l, 1) := by decide +kernel
theorem dX11_alone_39 : decode cX11_alone 39 = .ok (.lconst 0, 1) := by decide +kernel
theorem dX11_alone_40 : decode cX11_alone 40 = .ok (.lconst 1, 1) := by decide +kernel
theorem dX11_alone_41 : decode cX11_alone 41 = .ok (.invokestatic 103, 3) := by decide +kernel
theorem dX11_alone_44 : decode cX11_alone 44 = .ok (.ifCond .ne 7, 3) := by decide +kernel
theorem dX11_alone_47 : decode cX11_alone 47 = .ok (.ldc2_w 148, 3) := by decide +kernel
theorem dX11_alone_50 : decode cX11_alone 50 = .ok (.lreturn, 1) := by decide +kernel
theorem dX11_alone_51 : decode cX11_alone 51 = .ok (.iload_n 3, 1) := by decide +kernel
theorem dX11_alone_52 : decode cX11_alone 52 = .ok (.iload_n 2, 1) := by decide +kernel
theorem dX11_alone_53 : decode cX11_alone 53 = .ok (.if_icmp .gt 8, 3) := by decide +kernel
theorem dX11_alone_56 : decode cX11_alone 56 = .ok (.iload_n 3, 1) := by decide +kernel
theorem dX11_alone_57 : decode cX11_alone 57 = .ok (.iload_n 1, 1) := by decide +kernel
theorem dX11_alone_58 : decode cX11_alone 58 = .ok (.if_icmp .le 7, 3) := by decide +kernel
theorem dX11_alone_61 : decode cX11_alone 61 = .ok (.lconst 0, 1) := by decide +kernel
theorem dX11_alone_62 : decode cX11_alone 62 = .ok (.goto 27, 3) := by decide +kernel
theorem dX11_alone_65 : decode cX11_alone 65 = .ok (.aload_n 0, 1) := by decide +kernel
theorem dX11_alone_66 : decode cX11_alone 66 = .ok (.iload_n 2, 1) := by decide +kernel
theorem dX11_alone_67 : decode cX11_alone 67 = .ok (.iload_n 3, 1) := by decide +kernel
theorem dX11_alone_68 : decode cX11_alone 68 = .ok (.invokevirtual 269, 3) := by decide +kernel
theorem dX11_alone_71 : decode cX11_alone 71 = .ok (.iload_n 1, 1) := by decide +kernel
theorem dX11_alone_72 : decode cX11_alone 72 = .ok (.iload_n 3, 1) := by decide +kernel
theorem dX11_alone_73 : decode cX11_alone 73 = .ok (.invokestatic 277, 3) := by decide +kernel
theorem dX11_alone_76 : decode cX11_alone 76 = .ok (.lmul, 1) := by decide +kernel
theorem dX11_alone_77 : decode cX11_alone 77 = .ok (.aload_n 0, 1) := by decide +kernel
theorem dX11_alone_78 : decode cX11_alone 78 = .ok (.iload_n 1, 1) := by decide +kernel
theorem dX11_alone_79 : decode cX11_alone 79 = .ok (.iload_n 3, 1) := by decide +kernel
theorem dX11_alone_80 : decode cX11_alone 80 = .ok (.isub, 1) := by decide +kernel
theorem dX11_alone_81 : decode cX11_alone 81 = .ok (.iload_n 2, 1) := by decide +kernel
theorem dX11_alone_82 : decode cX11_alone 82 = .ok (.iload_n 3, 1) := by decide +kernel
theorem dX11_alone_83 : decode cX11_alone 83 = .ok (.isub, 1) := by decide +kernel
theorem dX11_alone_84 : decode cX11_alone 84 = .ok (.iconst 0, 1) := by decide +kernel
theorem dX11_alone_85 : decode cX11_alone 85 = .ok (.invokevirtual 280, 3) := by decide +kernel
theorem dX11_alone_88 : decode cX11_alone 88 = .ok (.lmul, 1) := by decide +kernel
theorem dX11_alone_89 : decode cX11_alone 89 = .ok (.lstore 5, 2) := by decide +kernel
theorem dX11_alone_91 : decode cX11_alone 91 = .ok (.lload 5, 2) := by decide +kernel
theorem dX11_alone_93 : decode cX11_alone 93 = .ok (.iload_n 1, 1) := by decide +kernel
theorem dX11_alone_94 : decode cX11_alone 94 = .ok (.i2l, 1) := by decide +kernel
theorem dX11_alone_95 : decode cX11_alone 95 = .ok (.iload_n 2, 1) := by decide +kernel
theorem dX11_alone_96 : decode cX11_alone 96 = .ok (.invokestatic 284, 3) := by decide +kernel
theorem dX11_alone_99 : decode cX11_alone 99 = .ok (.iload 4, 2) := by decide +kernel
theorem dX11_alone_101 : decode cX11_alone 101 = .ok (.invokestatic 288, 3) := by decide +kernel
theorem dX11_alone_104 : decode cX11_alone 104 = .ok (.lreturn, 1) := by decide +kernel
set_option maxRecDepth 20000 in
theorem ggX11_mean_X11_in : GoodIn wsX11_mean wsX11_in := goodIn_r _ [6] (by decide +kernel) (by decide +kernel)
set_option maxRecDepth 20000 in
theorem gX11_mean_X11_in : GoodIn wsX11_mean (va_wsS RX11 103 yX11_in wsX11_in) := goodIn_app (goodIn_of _ (by decide +kernel)) ggX11_mean_X11_in
set_option maxRecDepth 20000 in
theorem ggX11_mean_X11_power : GoodIn wsX11_mean wsX11_power := goodIn_r _ [9] (by decide +kernel) (by decide +kernel)
set_option maxRecDepth 20000 in
theorem gX11_mean_X11_power : GoodIn wsX11_mean (va_wsS RX11 284 yX11_power wsX11_power) := goodIn_app (goodIn_of _ (by decide +kernel)) ggX11_mean_X11_power
set_option maxRecDepth 20000 in
theorem ggX11_mean_X11_told : GoodIn wsX11_mean wsX11_told := goodIn_r _ [12, 13, 14, 5, 15] (by decide +kernel) (by decide +kernel)
set_option maxRecDepth 20000 in
theorem gX11_mean_X11_told : GoodIn wsX11_mean (va_wsS RX11 288 yX11_told wsX11_told) := goodIn_app (goodIn_of _ (by decide +kernel)) ggX11_mean_X11_told
theorem dX11_mean_0 : decode cX11_mean 0 = .ok (.iload_n 1, 1) := by decide +kernel
theorem dX11_mean_1 : decode cX11_mean 1 = .ok (.i2l, 1) := by decide +kernel
theorem dX11_mean_2 : decode cX11_mean 2 = .ok (.lconst 1, 1) := by decide +kernel
theorem dX11_mean_3 : decode cX11_mean 3 = .ok (.ldc2_w 112, 3) := by decide +kernel
theorem dX11_mean_6 : decode cX11_mean 6 = .ok (.invokestatic 103, 3) := by decide +kernel
theorem dX11_mean_9 : decode cX11_mean 9 = .ok (.ifCond .eq 25, 3) := by decide +kernel
theorem dX11_mean_12 : decode cX11_mean 12 = .ok (.iload_n 2, 1) := by decide +kernel
theorem dX11_mean_13 : decode cX11_mean 13 = .ok (.i2l, 1) := by decide +kernel
theorem dX11_mean_14 : decode cX11_mean 14 = .ok (.lconst 1, 1) := by decide +kernel
theorem dX11_mean_15 : decode cX11_mean 15 = .ok (.ldc2_w 112, 3) := by decide +kernel
theorem dX11_mean_18 : decode cX11_mean 18 = .ok (.invokestatic 103, 3) := by decide +kernel
theorem dX11_mean_21 : decode cX11_mean 21 = .ok (.ifCond .eq 13, 3) := by decide +kernel
theorem dX11_mean_24 : decode cX11_mean 24 = .ok (.iload_n 3, 1) := by decide +kernel
theorem dX11_mean_25 : decode cX11_mean 25 = .ok (.i2l, 1) := by decide +kernel
theorem dX11_mean_26 : decode cX11_mean 26 = .ok (.lconst 0, 1) := by decide +kernel
theorem dX11_mean_27 : decode cX11_mean 27 = .ok (.lconst 1, 1) := by decide +kernel
theorem dX11_mean_28 : decode cX11_mean 28 = .ok (.invokestatic 103, 3) := by decide +kernel
theorem dX11_mean_31 : decode cX11_mean 31 = .ok (.ifCond .ne 7, 3) := by decide +kernel
theorem dX11_mean_34 : decode cX11_mean 34 = .ok (.ldc2_w 148, 3) := by decide +kernel
theorem dX11_mean_37 : decode cX11_mean 37 = .ok (.lreturn, 1) := by decide +kernel
theorem dX11_mean_38 : decode cX11_mean 38 = .ok (.iload_n 2, 1) := by decide +kernel
theorem dX11_mean_39 : decode cX11_mean 39 = .ok (.i2l, 1) := by decide +kernel
theorem dX11_mean_40 : decode cX11_mean 40 = .ok (.iload_n 1, 1) := by decide +kernel
theorem dX11_mean_41 : decode cX11_mean 41 = .ok (.iconst 1, 1) := by decide +kernel
theorem dX11_mean_42 : decode cX11_mean 42 = .ok (.isub, 1) := by decide +kernel
theorem dX11_mean_43 : decode cX11_mean 43 = .ok (.i2l, 1) := by decide +kernel
theorem dX11_mean_44 : decode cX11_mean 44 = .ok (.iload_n 2, 1) := by decide +kernel
theorem dX11_mean_45 : decode cX11_mean 45 = .ok (.iconst 1, 1) := by decide +kernel
theorem dX11_mean_46 : decode cX11_mean 46 = .ok (.isub, 1) := by decide +kernel
theorem dX11_mean_47 : decode cX11_mean 47 = .ok (.invokestatic 284, 3) := by decide +kernel
theorem dX11_mean_50 : decode cX11_mean 50 = .ok (.lmul, 1) := by decide +kernel
theorem dX11_mean_51 : decode cX11_mean 51 = .ok (.iload_n 1, 1) := by decide +kernel
theorem dX11_mean_52 : decode cX11_mean 52 = .ok (.i2l, 1) := by decide +kernel
theorem dX11_mean_53 : decode cX11_mean 53 = .ok (.iload_n 2, 1) := by decide +kernel
theorem dX11_mean_54 : decode cX11_mean 54 = .ok (.iconst 1, 1) := by decide +kernel
theorem dX11_mean_55 : decode cX11_mean 55 = .ok (.isub, 1) := by decide +kernel
theorem dX11_mean_56 : decode cX11_mean 56 = .ok (.invokestatic 284, 3) := by decide +kernel
theorem dX11_mean_59 : decode cX11_mean 59 = .ok (.iload_n 3, 1) := by decide +kernel
theorem dX11_mean_60 : decode cX11_mean 60 = .ok (.invokestatic 288, 3) := by decide +kernel
theorem dX11_mean_63 : decode cX11_mean 63 = .ok (.lreturn, 1) := by decide +kernel
set_option maxRecDepth 20000 in
theorem ggX11_best_X11_in : GoodIn wsX11_best wsX11_in := goodIn_r _ [5] (by decide +kernel) (by decide +kernel)
set_option maxRecDepth 20000 in
theorem gX11_best_X11_in : GoodIn wsX11_best (va_wsS RX11 103 yX11_in wsX11_in) := goodIn_app (goodIn_of _ (by decide +kernel)) ggX11_best_X11_in
set_option maxRecDepth 20000 in
theorem ggX11_best_X11_power : GoodIn wsX11_best wsX11_power := goodIn_r _ [8] (by decide +kernel) (by decide +kernel)
set_option maxRecDepth 20000 in
theorem gX11_best_X11_power : GoodIn wsX11_best (va_wsS RX11 284 yX11_power wsX11_power) := goodIn_app (goodIn_of _ (by decide +kernel)) ggX11_best_X11_power
theorem dX11_best_0 : decode cX11_best 0 = .ok (.iload_n 1, 1) := by decide +kernel
theorem dX11_best_1 : decode cX11_best 1 = .ok (.i2l, 1) := by decide +kernel
theorem dX11_best_2 : decode cX11_best 2 = .ok (.lconst 1, 1) := by decide +kernel
theorem dX11_best_3 : decode cX11_best 3 = .ok (.ldc2_w 292, 3) := by decide +kernel
theorem dX11_best_6 : decode cX11_best 6 = .ok (.invokestatic 103, 3) := by decide +kernel
theorem dX11_best_9 : decode cX11_best 9 = .ok (.ifCond .ne 5, 3) := by decide +kernel
theorem dX11_best_12 : decode cX11_best 12 = .ok (.iconst (-1), 1) := by decide +kernel
theorem dX11_best_13 : decode cX11_best 13 = .ok (.ireturn, 1) := by decide +kernel
theorem dX11_best_14 : decode cX11_best 14 = .ok (.iconst 1, 1) := by decide +kernel
theorem dX11_best_15 : decode cX11_best 15 = .ok (.istore_n 2, 1) := by decide +kernel
theorem dX11_best_16 : decode cX11_best 16 = .ok (.iconst 2, 1) := by decide +kernel
theorem dX11_best_17 : decode cX11_best 17 = .ok (.istore_n 3, 1) := by decide +kernel
theorem dX11_best_18 : decode cX11_best 18 = .ok (.iload_n 3, 1) := by decide +kernel
theorem dX11_best_19 : decode cX11_best 19 = .ok (.bipush 64, 2) := by decide +kernel
theorem dX11_best_21 : decode cX11_best 21 = .ok (.if_icmp .gt 53, 3) := by decide +kernel
theorem dX11_best_24 : decode cX11_best 24 = .ok (.iload_n 3, 1) := by decide +kernel
theorem dX11_best_25 : decode cX11_best 25 = .ok (.iconst 1, 1) := by decide +kernel
theorem dX11_best_26 : decode cX11_best 26 = .ok (.isub, 1) := by decide +kernel
theorem dX11_best_27 : decode cX11_best 27 = .ok (.i2l, 1) := by decide +kernel
theorem dX11_best_28 : decode cX11_best 28 = .ok (.iload_n 1, 1) := by decide +kernel
theorem dX11_best_29 : decode cX11_best 29 = .ok (.iconst 1, 1) := by decide +kernel
theorem dX11_best_30 : decode cX11_best 30 = .ok (.isub, 1) := by decide +kernel
theorem dX11_best_31 : decode cX11_best 31 = .ok (.invokestatic 284, 3) := by decide +kernel
theorem dX11_best_34 : decode cX11_best 34 = .ok (.iload_n 2, 1) := by decide +kernel
theorem dX11_best_35 : decode cX11_best 35 = .ok (.i2l, 1) := by decide +kernel
theorem dX11_best_36 : decode cX11_best 36 = .ok (.iload_n 1, 1) := by decide +kernel
theorem dX11_best_37 : decode cX11_best 37 = .ok (.invokestatic 284, 3) := by decide +kernel
theorem dX11_best_40 : decode cX11_best 40 = .ok (.lmul, 1) := by decide +kernel
theorem dX11_best_41 : decode cX11_best 41 = .ok (.iload_n 2, 1) := by decide +kernel
theorem dX11_best_42 : decode cX11_best 42 = .ok (.iconst 1, 1) := by decide +kernel
theorem dX11_best_43 : decode cX11_best 43 = .ok (.isub, 1) := by decide +kernel
theorem dX11_best_44 : decode cX11_best 44 = .ok (.i2l, 1) := by decide +kernel
theorem dX11_best_45 : decode cX11_best 45 = .ok (.iload_n 1, 1) := by decide +kernel
theorem dX11_best_46 : decode cX11_best 46 = .ok (.iconst 1, 1) := by decide +kernel
theorem dX11_best_47 : decode cX11_best 47 = .ok (.isub, 1) := by decide +kernel
theorem dX11_best_48 : decode cX11_best 48 = .ok (.invokestatic 284, 3) := by decide +kernel
theorem dX11_best_51 : decode cX11_best 51 = .ok (.iload_n 3, 1) := by decide +kernel
theorem dX11_best_52 : decode cX11_best 52 = .ok (.i2l, 1) := by decide +kernel
theorem dX11_best_53 : decode cX11_best 53 = .ok (.iload_n 1, 1) := by decide +kernel
theorem dX11_best_54 : decode cX11_best 54 = .ok (.invokestatic 284, 3) := by decide +kernel
theorem dX11_best_57 : decode cX11_best 57 = .ok (.lmul, 1) := by decide +kernel
theorem dX11_best_58 : decode cX11_best 58 = .ok (.lcmp, 1) := by decide +kernel
theorem dX11_best_59 : decode cX11_best 59 = .ok (.ifCond .le 7, 3) := by decide +kernel
theorem dX11_best_62 : decode cX11_best 62 = .ok (.iload_n 3, 1) := by decide +kernel
theorem dX11_best_63 : decode cX11_best 63 = .ok (.goto 4, 3) := by decide +kernel
theorem dX11_best_66 : decode cX11_best 66 = .ok (.iload_n 2, 1) := by decide +kernel
theorem dX11_best_67 : decode cX11_best 67 = .ok (.istore_n 2, 1) := by decide +kernel
theorem dX11_best_68 : decode cX11_best 68 = .ok (.iinc 3 1, 3) := by decide +kernel
theorem dX11_best_71 : decode cX11_best 71 = .ok (.goto (-53), 3) := by decide +kernel
theorem dX11_best_74 : decode cX11_best 74 = .ok (.iload_n 2, 1) := by decide +kernel
theorem dX11_best_75 : decode cX11_best 75 = .ok (.ireturn, 1) := by decide +kernel
set_option maxRecDepth 20000 in
theorem ggX11_isView_X11_in : GoodIn wsX11_isView wsX11_in := goodIn_r _ [5] (by decide +kernel) (by decide +kernel)
set_option maxRecDepth 20000 in
theorem gX11_isView_X11_in : GoodIn wsX11_isView (va_wsS RX11 103 yX11_in wsX11_in) := goodIn_app (goodIn_of _ (by decide +kernel)) ggX11_isView_X11_in
theorem dX11_isView_0 : decode cX11_isView 0 = .ok (.iload_n 0, 1) := by decide +kernel
theorem dX11_isView_1 : decode cX11_isView 1 = .ok (.i2l, 1) := by decide +kernel
theorem dX11_isView_2 : decode cX11_isView 2 = .ok (.lconst 0, 1) := by decide +kernel
theorem dX11_isView_3 : decode cX11_isView 3 = .ok (.ldc2_w 239, 3) := by decide +kernel
theorem dX11_isView_6 : decode cX11_isView 6 = .ok (.invokestatic 103, 3) := by decide +kernel
theorem dX11_isView_9 : decode cX11_isView 9 = .ok (.ifCond .eq 47, 3) := by decide +kernel
theorem dX11_isView_12 : decode cX11_isView 12 = .ok (.iload_n 1, 1) := by decide +kernel
theorem dX11_isView_13 : decode cX11_isView 13 = .ok (.i2l, 1) := by decide +kernel
theorem dX11_isView_14 : decode cX11_isView 14 = .ok (.lconst 0, 1) := by decide +kernel
theorem dX11_isView_15 : decode cX11_isView 15 = .ok (.ldc2_w 239, 3) := by decide +kernel
theorem dX11_isView_18 : decode cX11_isView 18 = .ok (.invokestatic 103, 3) := by decide +kernel
theorem dX11_isView_21 : decode cX11_isView 21 = .ok (.ifCond .eq 35, 3) := by decide +kernel
theorem dX11_isView_24 : decode cX11_isView 24 = .ok (.iload_n 2, 1) := by decide +kernel
theorem dX11_isView_25 : decode cX11_isView 25 = .ok (.i2l, 1) := by decide +kernel
theorem dX11_isView_26 : decode cX11_isView 26 = .ok (.lconst 0, 1) := by decide +kernel
theorem dX11_isView_27 : decode cX11_isView 27 = .ok (.ldc2_w 239, 3) := by decide +kernel
theorem dX11_isView_30 : decode cX11_isView 30 = .ok (.invokestatic 103, 3) := by decide +kernel
theorem dX11_isView_33 : decode cX11_isView 33 = .ok (.ifCond .eq 23, 3) := by decide +kernel
theorem dX11_isView_36 : decode cX11_isView 36 = .ok (.iload_n 0, 1) := by decide +kernel
theorem dX11_isView_37 : decode cX11_isView 37 = .ok (.iload_n 1, 1) := by decide +kernel
theorem dX11_isView_38 : decode cX11_isView 38 = .ok (.iadd, 1) := by decide +kernel
theorem dX11_isView_39 : decode cX11_isView 39 = .ok (.iload_n 2, 1) := by decide +kernel
theorem dX11_isView_40 : decode cX11_isView 40 = .ok (.iadd, 1) := by decide +kernel
theorem dX11_isView_41 : decode cX11_isView 41 = .ok (.i2l, 1) := by decide +kernel
theorem dX11_isView_42 : decode cX11_isView 42 = .ok (.lconst 1, 1) := by decide +kernel
theorem dX11_isView_43 : decode cX11_isView 43 = .ok (.ldc2_w 239, 3) := by decide +kernel
theorem dX11_isView_46 : decode cX11_isView 46 = .ok (.invokestatic 103, 3) := by decide +kernel
theorem dX11_isView_49 : decode cX11_isView 49 = .ok (.ifCond .eq 7, 3) := by decide +kernel
theorem dX11_isView_52 : decode cX11_isView 52 = .ok (.iconst 1, 1) := by decide +kernel
theorem dX11_isView_53 : decode cX11_isView 53 = .ok (.goto 4, 3) := by decide +kernel
theorem dX11_isView_56 : decode cX11_isView 56 = .ok (.iconst 0, 1) := by decide +kernel
theorem dX11_isView_57 : decode cX11_isView 57 = .ok (.ireturn, 1) := by decide +kernel
set_option maxRecDepth 20000 in
theorem ggX11_waysOf_X11_chooses : GoodIn wsX11_waysOf wsX11_chooses := goodIn_r _ [5, 6, 15, 16, 17, 18, 19, 20, 21, 22, 23, 24, 25, 26, 27, 28, 29, 30, 31, 32, 33, 34, 35, 36, 37, 38, 39, 40, 41, 42, 43, 44, 45, 46, 47, 48, 49, 50, 51, 52, 53, 54, 55, 56, 57, 58, 59, 60, 61, 62] (by decide +kernel) (by decide +kernel)
set_option maxRecDepth 20000 in
theorem gX11_waysOf_X11_chooses : GoodIn wsX11_waysOf (wsV RX11 269 RX11 yX11_chooses wsX11_chooses) := goodIn_app (goodIn_of _ (by decide +kernel)) ggX11_waysOf_X11_chooses
set_option maxRecDepth 20000 in
theorem ggX11_waysOf_X11_rows : GoodIn wsX11_waysOf wsX11_rows := goodIn_r _ [9] (by decide +kernel) (by decide +kernel)
set_option maxRecDepth 20000 in
theorem gX11_waysOf_X11_rows : GoodIn wsX11_waysOf (va_wsS RX11 277 yX11_rows wsX11_rows) := goodIn_app (goodIn_of _ (by decide +kernel)) ggX11_waysOf_X11_rows
set_option maxRecDepth 20000 in
theorem ggX11_waysOf_X11_waysIn : GoodIn wsX11_waysOf wsX11_waysIn := goodIn_r _ [13, 14, 1, 2, 3, 4, 5, 6, 15, 16, 17, 18, 19, 20, 21, 22, 23, 24, 25, 26, 27, 28, 29, 30, 31, 32, 33, 34, 35, 36, 37, 38, 39, 40, 41, 42, 43, 44, 45, 46, 47, 48, 49, 50, 51, 52, 53, 54, 55, 56, 57, 58, 59, 60, 61, 62] (by decide +kernel) (by decide +kernel)
set_option maxRecDepth 20000 in
theorem gX11_waysOf_X11_waysIn : GoodIn wsX11_waysOf (wsV RX11 280 RX11 yX11_waysIn wsX11_waysIn) := goodIn_app (goodIn_of _ (by decide +kernel)) ggX11_waysOf_X11_waysIn
theorem dX11_waysOf_0 : decode cX11_waysOf 0 = .ok (.iload_n 3, 1) := by decide +kernel
theorem dX11_waysOf_1 : decode cX11_waysOf 1 = .ok (.iload_n 1, 1) := by decide +kernel
theorem dX11_waysOf_2 : decode cX11_waysOf 2 = .ok (.if_icmp .le 7, 3) := by decide +kernel
theorem dX11_waysOf_5 : decode cX11_waysOf 5 = .ok (.lconst 0, 1) := by decide +kernel
theorem dX11_waysOf_6 : decode cX11_waysOf 6 = .ok (.goto 41, 3) := by decide +kernel
theorem dX11_waysOf_9 : decode cX11_waysOf 9 = .ok (.aload_n 0, 1) := by decide +kernel
theorem dX11_waysOf_10 : decode cX11_waysOf 10 = .ok (.iload_n 2, 1) := by decide +kernel
theorem dX11_waysOf_11 : decode cX11_waysOf 11 = .ok (.iload_n 3, 1) := by decide +kernel
theorem dX11_waysOf_12 : decode cX11_waysOf 12 = .ok (.iadd, 1) := by decide +kernel
theorem dX11_waysOf_13 : decode cX11_waysOf 13 = .ok (.iload 4, 2) := by decide +kernel
theorem dX11_waysOf_15 : decode cX11_waysOf 15 = .ok (.iadd, 1) := by decide +kernel
theorem dX11_waysOf_16 : decode cX11_waysOf 16 = .ok (.iload_n 2, 1) := by decide +kernel
theorem dX11_waysOf_17 : decode cX11_waysOf 17 = .ok (.invokevirtual 269, 3) := by decide +kernel
theorem dX11_waysOf_20 : decode cX11_waysOf 20 = .ok (.aload_n 0, 1) := by decide +kernel
theorem dX11_waysOf_21 : decode cX11_waysOf 21 = .ok (.iload_n 3, 1) := by decide +kernel
theorem dX11_waysOf_22 : decode cX11_waysOf 22 = .ok (.iload 4, 2) := by decide +kernel
theorem dX11_waysOf_24 : decode cX11_waysOf 24 = .ok (.iadd, 1) := by decide +kernel
theorem dX11_waysOf_25 : decode cX11_waysOf 25 = .ok (.iload_n 3, 1) := by decide +kernel
theorem dX11_waysOf_26 : decode cX11_waysOf 26 = .ok (.invokevirtual 269, 3) := by decide +kernel
theorem dX11_waysOf_29 : decode cX11_waysOf 29 = .ok (.lmul, 1) := by decide +kernel
theorem dX11_waysOf_30 : decode cX11_waysOf 30 = .ok (.iload_n 1, 1) := by decide +kernel
theorem dX11_waysOf_31 : decode cX11_waysOf 31 = .ok (.iload_n 3, 1) := by decide +kernel
theorem dX11_waysOf_32 : decode cX11_waysOf 32 = .ok (.invokestatic 277, 3) := by decide +kernel
theorem dX11_waysOf_35 : decode cX11_waysOf 35 = .ok (.lmul, 1) := by decide +kernel
theorem dX11_waysOf_36 : decode cX11_waysOf 36 = .ok (.aload_n 0, 1) := by decide +kernel
theorem dX11_waysOf_37 : decode cX11_waysOf 37 = .ok (.iload 4, 2) := by decide +kernel
theorem dX11_waysOf_39 : decode cX11_waysOf 39 = .ok (.iload_n 1, 1) := by decide +kernel
theorem dX11_waysOf_40 : decode cX11_waysOf 40 = .ok (.iload_n 3, 1) := by decide +kernel
theorem dX11_waysOf_41 : decode cX11_waysOf 41 = .ok (.isub, 1) := by decide +kernel
theorem dX11_waysOf_42 : decode cX11_waysOf 42 = .ok (.iconst 1, 1) := by decide +kernel
theorem dX11_waysOf_43 : decode cX11_waysOf 43 = .ok (.invokevirtual 280, 3) := by decide +kernel
theorem dX11_waysOf_46 : decode cX11_waysOf 46 = .ok (.lmul, 1) := by decide +kernel
theorem dX11_waysOf_47 : decode cX11_waysOf 47 = .ok (.lreturn, 1) := by decide +kernel
set_option maxRecDepth 20000 in
theorem ggX11_guess_X11_isView : GoodIn wsX11_guess wsX11_isView := goodIn_r _ [4, 5, 6, 7, 3, 8] (by decide +kernel) (by decide +kernel)
set_option maxRecDepth 20000 in
theorem gX11_guess_X11_isView : GoodIn wsX11_guess (va_wsS RX11 294 yX11_isView wsX11_isView) := goodIn_app (goodIn_of _ (by decide +kernel)) ggX11_guess_X11_isView
set_option maxRecDepth 20000 in
theorem ggX11_guess_X11_waysOf : GoodIn wsX11_guess wsX11_waysOf := goodIn_r _ [12, 13, 14, 15, 3, 16, 17, 18, 19, 20, 21, 22, 23, 24, 25, 29, 30, 31, 32, 33, 34, 35, 36, 37, 38, 39, 40, 41, 42, 43, 44, 45, 46, 47, 48, 49, 50, 51, 52, 53, 54, 55, 56, 57, 58, 59, 60, 61, 62, 63, 64, 65, 66, 67, 68, 69, 70, 71, 72, 73, 74, 75, 76] (by decide +kernel) (by decide +kernel)
set_option maxRecDepth 20000 in
theorem gX11_guess_X11_waysOf : GoodIn wsX11_guess (wsV RX11 298 RX11 yX11_waysOf wsX11_waysOf) := goodIn_app (goodIn_of _ (by decide +kernel)) ggX11_guess_X11_waysOf
set_option maxRecDepth 20000 in
theorem ggX11_guess_X11_power : GoodIn wsX11_guess wsX11_power := goodIn_r _ [28] (by decide +kernel) (by decide +kernel)
set_option maxRecDepth 20000 in
theorem gX11_guess_X11_power : GoodIn wsX11_guess (va_wsS RX11 284 yX11_power wsX11_power) := goodIn_app (goodIn_of _ (by decide +kernel)) ggX11_guess_X11_power
theorem dX11_guess_0 : decode cX11_guess 0 = .ok (.iload_n 1, 1) := by decide +kernel
theorem dX11_guess_1 : decode cX11_guess 1 = .ok (.iload_n 2, 1) := by decide +kernel
theorem dX11_guess_2 : decode cX11_guess 2 = .ok (.iload_n 3, 1) := by decide +kernel
theorem dX11_guess_3 : decode cX11_guess 3 = .ok (.invokestatic 294, 3) := by decide +kernel
theorem dX11_guess_6 : decode cX11_guess 6 = .ok (.ifCond .ne 5, 3) := by decide +kernel
theorem dX11_guess_9 : decode cX11_guess 9 = .ok (.iconst (-1), 1) := by decide +kernel
theorem dX11_guess_10 : decode cX11_guess 10 = .ok (.ireturn, 1) := by decide +kernel
theorem dX11_guess_11 : decode cX11_guess 11 = .ok (.bipush (-4), 2) := by decide +kernel
theorem dX11_guess_13 : decode cX11_guess 13 = .ok (.istore 4, 2) := by decide +kernel
theorem dX11_guess_15 : decode cX11_guess 15 = .ok (.lconst 0, 1) := by decide +kernel
theorem dX11_guess_16 : decode cX11_guess 16 = .ok (.lstore 5, 2) := by decide +kernel
theorem dX11_guess_18 : decode cX11_guess 18 = .ok (.iconst 0, 1) := by decide +kernel
theorem dX11_guess_19 : decode cX11_guess 19 = .ok (.istore 7, 2) := by decide +kernel
theorem dX11_guess_21 : decode cX11_guess 21 = .ok (.iload 7, 2) := by decide +kernel
theorem dX11_guess_23 : decode cX11_guess 23 = .ok (.bipush 16, 2) := by decide +kernel
theorem dX11_guess_25 : decode cX11_guess 25 = .ok (.if_icmp .gt 92, 3) := by decide +kernel
theorem dX11_guess_28 : decode cX11_guess 28 = .ok (.aload_n 0, 1) := by decide +kernel
theorem dX11_guess_29 : decode cX11_guess 29 = .ok (.iload 7, 2) := by decide +kernel
theorem dX11_guess_31 : decode cX11_guess 31 = .ok (.iload_n 1, 1) := by decide +kernel
theorem dX11_guess_32 : decode cX11_guess 32 = .ok (.iload_n 2, 1) := by decide +kernel
theorem dX11_guess_33 : decode cX11_guess 33 = .ok (.iload_n 3, 1) := by decide +kernel
theorem dX11_guess_34 : decode cX11_guess 34 = .ok (.invokevirtual 298, 3) := by decide +kernel
theorem dX11_guess_37 : decode cX11_guess 37 = .ok (.lstore 8, 2) := by decide +kernel
theorem dX11_guess_39 : decode cX11_guess 39 = .ok (.lload 8, 2) := by decide +kernel
theorem dX11_guess_41 : decode cX11_guess 41 = .ok (.lconst 0, 1) := by decide +kernel
theorem dX11_guess_42 : decode cX11_guess 42 = .ok (.lcmp, 1) := by decide +kernel
theorem dX11_guess_43 : decode cX11_guess 43 = .ok (.ifCond .le 37, 3) := by decide +kernel
theorem dX11_guess_46 : decode cX11_guess 46 = .ok (.iload 4, 2) := by decide +kernel
theorem dX11_guess_48 : decode cX11_guess 48 = .ok (.bipush (-4), 2) := by decide +kernel
theorem dX11_guess_50 : decode cX11_guess 50 = .ok (.if_icmp .eq 26, 3) := by decide +kernel
theorem dX11_guess_53 : decode cX11_guess 53 = .ok (.lload 8, 2) := by decide +kernel
theorem dX11_guess_55 : decode cX11_guess 55 = .ok (.lload 5, 2) := by decide +kernel
theorem dX11_guess_57 : decode cX11_guess 57 = .ok (.iload_n 1, 1) := by decide +kernel
theorem dX11_guess_58 : decode cX11_guess 58 = .ok (.iload_n 2, 1) := by decide +kernel
theorem dX11_guess_59 : decode cX11_guess 59 = .ok (.iadd, 1) := by decide +kernel
theorem dX11_guess_60 : decode cX11_guess 60 = .ok (.iload_n 3, 1) := by decide +kernel
theorem dX11_guess_61 : decode cX11_guess 61 = .ok (.iadd, 1) := by decide +kernel
theorem dX11_guess_62 : decode cX11_guess 62 = .ok (.i2l, 1) := by decide +kernel
theorem dX11_guess_63 : decode cX11_guess 63 = .ok (.iload 7, 2) := by decide +kernel
theorem dX11_guess_65 : decode cX11_guess 65 = .ok (.iload 4, 2) := by decide +kernel
theorem dX11_guess_67 : decode cX11_guess 67 = .ok (.isub, 1) := by decide +kernel
theorem dX11_guess_68 : decode cX11_guess 68 = .ok (.invokestatic 284, 3) := by decide +kernel
theorem dX11_guess_71 : decode cX11_guess 71 = .ok (.lmul, 1) := by decide +kernel
theorem dX11_guess_72 : decode cX11_guess 72 = .ok (.lcmp, 1) := by decide +kernel
theorem dX11_guess_73 : decode cX11_guess 73 = .ok (.ifCond .le 7, 3) := by decide +kernel
theorem dX11_guess_76 : decode cX11_guess 76 = .ok (.iconst 1, 1) := by decide +kernel
theorem dX11_guess_77 : decode cX11_guess 77 = .ok (.goto 4, 3) := by decide +kernel
theorem dX11_guess_80 : decode cX11_guess 80 = .ok (.iconst 0, 1) := by decide +kernel
theorem dX11_guess_81 : decode cX11_guess 81 = .ok (.istore 10, 2) := by decide +kernel
theorem dX11_guess_83 : decode cX11_guess 83 = .ok (.iload 10, 2) := by decide +kernel
theorem dX11_guess_85 : decode cX11_guess 85 = .ok (.ifCond .eq 8, 3) := by decide +kernel
theorem dX11_guess_88 : decode cX11_guess 88 = .ok (.lload 8, 2) := by decide +kernel
theorem dX11_guess_90 : decode cX11_guess 90 = .ok (.goto 5, 3) := by decide +kernel
theorem dX11_guess_93 : decode cX11_guess 93 = .ok (.lload 5, 2) := by decide +kernel
theorem dX11_guess_95 : decode cX11_guess 95 = .ok (.lstore 5, 2) := by decide +kernel
theorem dX11_guess_97 : decode cX11_guess 97 = .ok (.iload 10, 2) := by decide +kernel
theorem dX11_guess_99 : decode cX11_guess 99 = .ok (.ifCond .eq 8, 3) := by decide +kernel
theorem dX11_guess_102 : decode cX11_guess 102 = .ok (.iload 7, 2) := by decide +kernel
theorem dX11_guess_104 : decode cX11_guess 104 = .ok (.goto 5, 3) := by decide +kernel
theorem dX11_guess_107 : decode cX11_guess 107 = .ok (.iload 4, 2) := by decide +kernel
theorem dX11_guess_109 : decode cX11_guess 109 = .ok (.istore 4, 2) := by decide +kernel
theorem dX11_guess_111 : decode cX11_guess 111 = .ok (.iinc 7 1, 3) := by decide +kernel
theorem dX11_guess_114 : decode cX11_guess 114 = .ok (.goto (-93), 3) := by decide +kernel
theorem dX11_guess_117 : decode cX11_guess 117 = .ok (.iload 4, 2) := by decide +kernel
theorem dX11_guess_119 : decode cX11_guess 119 = .ok (.ireturn, 1) := by decide +kernel
set_option maxRecDepth 20000 in
theorem ggX11_ways_X11_in : GoodIn wsX11_ways wsX11_in := goodIn_r _ [6] (by decide +kernel) (by decide +kernel)
set_option maxRecDepth 20000 in
theorem gX11_ways_X11_in : GoodIn wsX11_ways (va_wsS RX11 103 yX11_in wsX11_in) := goodIn_app (goodIn_of _ (by decide +kernel)) ggX11_ways_X11_in
set_option maxRecDepth 20000 in
theorem ggX11_ways_X11_isView : GoodIn wsX11_ways wsX11_isView := goodIn_r _ [9, 10, 3, 4, 5, 6] (by decide +kernel) (by decide +kernel)
set_option maxRecDepth 20000 in
theorem gX11_ways_X11_isView : GoodIn wsX11_ways (va_wsS RX11 294 yX11_isView wsX11_isView) := goodIn_app (goodIn_of _ (by decide +kernel)) ggX11_ways_X11_isView
set_option maxRecDepth 20000 in
theorem ggX11_ways_X11_waysOf : GoodIn wsX11_ways wsX11_waysOf := goodIn_r _ [14, 15, 16, 17, 5, 18, 19, 20, 21, 22, 23, 24, 25, 26, 27, 28, 29, 30, 31, 32, 33, 34, 35, 36, 37, 38, 39, 40, 41, 42, 43, 44, 45, 46, 47, 48, 49, 50, 51, 52, 53, 54, 55, 56, 57, 58, 59, 60, 61, 62, 63, 64, 65, 66, 67, 68, 69, 70, 71, 72, 73, 74, 75] (by decide +kernel) (by decide +kernel)
set_option maxRecDepth 20000 in
theorem gX11_ways_X11_waysOf : GoodIn wsX11_ways (wsV RX11 298 RX11 yX11_waysOf wsX11_waysOf) := goodIn_app (goodIn_of _ (by decide +kernel)) ggX11_ways_X11_waysOf
theorem dX11_ways_0 : decode cX11_ways 0 = .ok (.iload_n 1, 1) := by decide +kernel
theorem dX11_ways_1 : decode cX11_ways 1 = .ok (.i2l, 1) := by decide +kernel
theorem dX11_ways_2 : decode cX11_ways 2 = .ok (.lconst 0, 1) := by decide +kernel
theorem dX11_ways_3 : decode cX11_ways 3 = .ok (.ldc2_w 302, 3) := by decide +kernel
theorem dX11_ways_6 : decode cX11_ways 6 = .ok (.invokestatic 103, 3) := by decide +kernel
theorem dX11_ways_9 : decode cX11_ways 9 = .ok (.ifCond .eq 25, 3) := by decide +kernel
theorem dX11_ways_12 : decode cX11_ways 12 = .ok (.iload_n 2, 1) := by decide +kernel
theorem dX11_ways_13 : decode cX11_ways 13 = .ok (.iload_n 3, 1) := by decide +kernel
theorem dX11_ways_14 : decode cX11_ways 14 = .ok (.iload 4, 2) := by decide +kernel
theorem dX11_ways_16 : decode cX11_ways 16 = .ok (.invokestatic 294, 3) := by decide +kernel
theorem dX11_ways_19 : decode cX11_ways 19 = .ok (.ifCond .eq 15, 3) := by decide +kernel
theorem dX11_ways_22 : decode cX11_ways 22 = .ok (.aload_n 0, 1) := by decide +kernel
theorem dX11_ways_23 : decode cX11_ways 23 = .ok (.iload_n 1, 1) := by decide +kernel
theorem dX11_ways_24 : decode cX11_ways 24 = .ok (.iload_n 2, 1) := by decide +kernel
theorem dX11_ways_25 : decode cX11_ways 25 = .ok (.iload_n 3, 1) := by decide +kernel
theorem dX11_ways_26 : decode cX11_ways 26 = .ok (.iload 4, 2) := by decide +kernel
theorem dX11_ways_28 : decode cX11_ways 28 = .ok (.invokevirtual 298, 3) := by decide +kernel
theorem dX11_ways_31 : decode cX11_ways 31 = .ok (.goto 6, 3) := by decide +kernel
theorem dX11_ways_34 : decode cX11_ways 34 = .ok (.ldc2_w 148, 3) := by decide +kernel
theorem dX11_ways_37 : decode cX11_ways 37 = .ok (.lreturn, 1) := by decide +kernel
set_option maxRecDepth 20000 in
theorem ggX11_know_X11_isNumber : GoodIn wsX11_know wsX11_isNumber := goodIn_r _ [7, 8, 9, 10, 6, 11, 12, 13, 14, 15, 16, 17, 18, 19, 20, 21, 22, 23, 24, 25, 26, 27, 28, 29, 30, 31, 32, 33, 34, 35, 36, 37, 38, 39, 40, 41, 42, 43, 44, 45, 46, 47, 48, 49, 50, 51, 52, 53, 54, 55, 56, 57, 58, 59] (by decide +kernel) (by decide +kernel)
set_option maxRecDepth 20000 in
theorem gX11_know_X11_isNumber : GoodIn wsX11_know (wsV RX11 124 RX11 yX11_isNumber wsX11_isNumber) := goodIn_app (goodIn_of _ (by decide +kernel)) ggX11_know_X11_isNumber
theorem dX11_know_0 : decode cX11_know 0 = .ok (.aload_n 0, 1) := by decide +kernel
theorem dX11_know_1 : decode cX11_know 1 = .ok (.iload_n 1, 1) := by decide +kernel
theorem dX11_know_2 : decode cX11_know 2 = .ok (.invokevirtual 124, 3) := by decide +kernel
theorem dX11_know_5 : decode cX11_know 5 = .ok (.istore_n 2, 1) := by decide +kernel
theorem dX11_know_6 : decode cX11_know 6 = .ok (.iconst 0, 1) := by decide +kernel
theorem dX11_know_7 : decode cX11_know 7 = .ok (.istore_n 3, 1) := by decide +kernel
theorem dX11_know_8 : decode cX11_know 8 = .ok (.iload_n 3, 1) := by decide +kernel
theorem dX11_know_9 : decode cX11_know 9 = .ok (.aload_n 0, 1) := by decide +kernel
theorem dX11_know_10 : decode cX11_know 10 = .ok (.getfield 114, 3) := by decide +kernel
theorem dX11_know_13 : decode cX11_know 13 = .ok (.if_icmp .ge 29, 3) := by decide +kernel
theorem dX11_know_16 : decode cX11_know 16 = .ok (.iload_n 2, 1) := by decide +kernel
theorem dX11_know_17 : decode cX11_know 17 = .ok (.ifCond .eq 17, 3) := by decide +kernel
theorem dX11_know_20 : decode cX11_know 20 = .ok (.aload_n 0, 1) := by decide +kernel
theorem dX11_know_21 : decode cX11_know 21 = .ok (.getfield 85, 3) := by decide +kernel
theorem dX11_know_24 : decode cX11_know 24 = .ok (.iload_n 3, 1) := by decide +kernel
theorem dX11_know_25 : decode cX11_know 25 = .ok (.iaload, 1) := by decide +kernel
theorem dX11_know_26 : decode cX11_know 26 = .ok (.iload_n 1, 1) := by decide +kernel
theorem dX11_know_27 : decode cX11_know 27 = .ok (.if_icmp .eq 7, 3) := by decide +kernel
theorem dX11_know_30 : decode cX11_know 30 = .ok (.iconst 1, 1) := by decide +kernel
theorem dX11_know_31 : decode cX11_know 31 = .ok (.goto 4, 3) := by decide +kernel
theorem dX11_know_34 : decode cX11_know 34 = .ok (.iconst 0, 1) := by decide +kernel
theorem dX11_know_35 : decode cX11_know 35 = .ok (.istore_n 2, 1) := by decide +kernel
theorem dX11_know_36 : decode cX11_know 36 = .ok (.iinc 3 1, 3) := by decide +kernel
theorem dX11_know_39 : decode cX11_know 39 = .ok (.goto (-31), 3) := by decide +kernel
theorem dX11_know_42 : decode cX11_know 42 = .ok (.iload_n 2, 1) := by decide +kernel
theorem dX11_know_43 : decode cX11_know 43 = .ok (.ifCond .ne 5, 3) := by decide +kernel
theorem dX11_know_46 : decode cX11_know 46 = .ok (.iconst (-1), 1) := by decide +kernel
theorem dX11_know_47 : decode cX11_know 47 = .ok (.ireturn, 1) := by decide +kernel
theorem dX11_know_48 : decode cX11_know 48 = .ok (.aload_n 0, 1) := by decide +kernel
theorem dX11_know_49 : decode cX11_know 49 = .ok (.getfield 114, 3) := by decide +kernel
theorem dX11_know_52 : decode cX11_know 52 = .ok (.bipush 16, 2) := by decide +kernel
theorem dX11_know_54 : decode cX11_know 54 = .ok (.if_icmp .ne 6, 3) := by decide +kernel
theorem dX11_know_57 : decode cX11_know 57 = .ok (.bipush (-3), 2) := by decide +kernel
theorem dX11_know_59 : decode cX11_know 59 = .ok (.ireturn, 1) := by decide +kernel
theorem dX11_know_60 : decode cX11_know 60 = .ok (.aload_n 0, 1) := by decide +kernel
theorem dX11_know_61 : decode cX11_know 61 = .ok (.getfield 85, 3) := by decide +kernel
theorem dX11_know_64 : decode cX11_know 64 = .ok (.aload_n 0, 1) := by decide +kernel
theorem dX11_know_65 : decode cX11_know 65 = .ok (.getfield 114, 3) := by decide +kernel
theorem dX11_know_68 : decode cX11_know 68 = .ok (.iload_n 1, 1) := by decide +kernel
theorem dX11_know_69 : decode cX11_know 69 = .ok (.iastore, 1) := by decide +kernel
theorem dX11_know_70 : decode cX11_know 70 = .ok (.aload_n 0, 1) := by decide +kernel
theorem dX11_know_71 : decode cX11_know 71 = .ok (.dup, 1) := by decide +kernel
theorem dX11_know_72 : decode cX11_know 72 = .ok (.getfield 114, 3) := by decide +kernel
theorem dX11_know_75 : decode cX11_know 75 = .ok (.iconst 1, 1) := by decide +kernel
theorem dX11_know_76 : decode cX11_know 76 = .ok (.iadd, 1) := by decide +kernel
theorem dX11_know_77 : decode cX11_know 77 = .ok (.putfield 114, 3) := by decide +kernel
theorem dX11_know_80 : decode cX11_know 80 = .ok (.aload_n 0, 1) := by decide +kernel
theorem dX11_know_81 : decode cX11_know 81 = .ok (.getfield 114, 3) := by decide +kernel
theorem dX11_know_84 : decode cX11_know 84 = .ok (.ireturn, 1) := by decide +kernel
theorem dX11_forget_0 : decode cX11_forget 0 = .ok (.aload_n 0, 1) := by decide +kernel
theorem dX11_forget_1 : decode cX11_forget 1 = .ok (.getfield 114, 3) := by decide +kernel
theorem dX11_forget_4 : decode cX11_forget 4 = .ok (.istore_n 1, 1) := by decide +kernel
theorem dX11_forget_5 : decode cX11_forget 5 = .ok (.aload_n 0, 1) := by decide +kernel
theorem dX11_forget_6 : decode cX11_forget 6 = .ok (.iconst 0, 1) := by decide +kernel
theorem dX11_forget_7 : decode cX11_forget 7 = .ok (.putfield 114, 3) := by decide +kernel
theorem dX11_forget_10 : decode cX11_forget 10 = .ok (.iload_n 1, 1) := by decide +kernel
theorem dX11_forget_11 : decode cX11_forget 11 = .ok (.ireturn, 1) := by decide +kernel
set_option maxRecDepth 20000 in
theorem ggX11_missing_X11_in : GoodIn wsX11_missing wsX11_in := goodIn_r _ [7] (by decide +kernel) (by decide +kernel)
set_option maxRecDepth 20000 in
theorem gX11_missing_X11_in : GoodIn wsX11_missing (va_wsS RX11 103 yX11_in wsX11_in) := goodIn_app (goodIn_of _ (by decide +kernel)) ggX11_missing_X11_in
set_option maxRecDepth 20000 in
theorem ggX11_missing_X11_slotOf : GoodIn wsX11_missing wsX11_slotOf := goodIn_r _ [11, 12, 13] (by decide +kernel) (by decide +kernel)
set_option maxRecDepth 20000 in
theorem gX11_missing_X11_slotOf : GoodIn wsX11_missing (wsV RX11 248 RX11 yX11_slotOf wsX11_slotOf) := goodIn_app (goodIn_of _ (by decide +kernel)) ggX11_missing_X11_slotOf
theorem dX11_missing_0 : decode cX11_missing 0 = .ok (.iload_n 1, 1) := by decide +kernel
theorem dX11_missing_1 : decode cX11_missing 1 = .ok (.i2l, 1) := by decide +kernel
theorem dX11_missing_2 : decode cX11_missing 2 = .ok (.lconst 1, 1) := by decide +kernel
theorem dX11_missing_3 : decode cX11_missing 3 = .ok (.ldc2_w 304, 3) := by decide +kernel
theorem dX11_missing_6 : decode cX11_missing 6 = .ok (.invokestatic 103, 3) := by decide +kernel
theorem dX11_missing_9 : decode cX11_missing 9 = .ok (.ifCond .eq 18, 3) := by decide +kernel
theorem dX11_missing_12 : decode cX11_missing 12 = .ok (.iload_n 3, 1) := by decide +kernel
theorem dX11_missing_13 : decode cX11_missing 13 = .ok (.i2l, 1) := by decide +kernel
theorem dX11_missing_14 : decode cX11_missing 14 = .ok (.lconst 0, 1) := by decide +kernel
theorem dX11_missing_15 : decode cX11_missing 15 = .ok (.iconst 1, 1) := by decide +kernel
theorem dX11_missing_16 : decode cX11_missing 16 = .ok (.iload_n 1, 1) := by decide +kernel
theorem dX11_missing_17 : decode cX11_missing 17 = .ok (.ishl, 1) := by decide +kernel
theorem dX11_missing_18 : decode cX11_missing 18 = .ok (.iconst 1, 1) := by decide +kernel
theorem dX11_missing_19 : decode cX11_missing 19 = .ok (.isub, 1) := by decide +kernel
theorem dX11_missing_20 : decode cX11_missing 20 = .ok (.i2l, 1) := by decide +kernel
theorem dX11_missing_21 : decode cX11_missing 21 = .ok (.invokestatic 103, 3) := by decide +kernel
theorem dX11_missing_24 : decode cX11_missing 24 = .ok (.ifCond .ne 5, 3) := by decide +kernel
theorem dX11_missing_27 : decode cX11_missing 27 = .ok (.iconst (-1), 1) := by decide +kernel
theorem dX11_missing_28 : decode cX11_missing 28 = .ok (.ireturn, 1) := by decide +kernel
theorem dX11_missing_29 : decode cX11_missing 29 = .ok (.iconst 0, 1) := by decide +kernel
theorem dX11_missing_30 : decode cX11_missing 30 = .ok (.istore 4, 2) := by decide +kernel
theorem dX11_missing_32 : decode cX11_missing 32 = .ok (.iconst 0, 1) := by decide +kernel
theorem dX11_missing_33 : decode cX11_missing 33 = .ok (.istore 5, 2) := by decide +kernel
theorem dX11_missing_35 : decode cX11_missing 35 = .ok (.iload 5, 2) := by decide +kernel
theorem dX11_missing_37 : decode cX11_missing 37 = .ok (.aload_n 0, 1) := by decide +kernel
theorem dX11_missing_38 : decode cX11_missing 38 = .ok (.getfield 114, 3) := by decide +kernel
theorem dX11_missing_41 : decode cX11_missing 41 = .ok (.if_icmp .ge 42, 3) := by decide +kernel
theorem dX11_missing_44 : decode cX11_missing 44 = .ok (.iload 4, 2) := by decide +kernel
theorem dX11_missing_46 : decode cX11_missing 46 = .ok (.iload_n 3, 1) := by decide +kernel
theorem dX11_missing_47 : decode cX11_missing 47 = .ok (.aload_n 0, 1) := by decide +kernel
theorem dX11_missing_48 : decode cX11_missing 48 = .ok (.aload_n 0, 1) := by decide +kernel
theorem dX11_missing_49 : decode cX11_missing 49 = .ok (.getfield 85, 3) := by decide +kernel
theorem dX11_missing_52 : decode cX11_missing 52 = .ok (.iload 5, 2) := by decide +kernel
theorem dX11_missing_54 : decode cX11_missing 54 = .ok (.iaload, 1) := by decide +kernel
theorem dX11_missing_55 : decode cX11_missing 55 = .ok (.iload_n 1, 1) := by decide +kernel
theorem dX11_missing_56 : decode cX11_missing 56 = .ok (.iload_n 2, 1) := by decide +kernel
theorem dX11_missing_57 : decode cX11_missing 57 = .ok (.invokevirtual 248, 3) := by decide +kernel
theorem dX11_missing_60 : decode cX11_missing 60 = .ok (.ishr, 1) := by decide +kernel
theorem dX11_missing_61 : decode cX11_missing 61 = .ok (.iconst 1, 1) := by decide +kernel
theorem dX11_missing_62 : decode cX11_missing 62 = .ok (.iand, 1) := by decide +kernel
theorem dX11_missing_63 : decode cX11_missing 63 = .ok (.ifCond .ne 10, 3) := by decide +kernel
theorem dX11_missing_66 : decode cX11_missing 66 = .ok (.iconst 1, 1) := by decide +kernel
theorem dX11_missing_67 : decode cX11_missing 67 = .ok (.iload 5, 2) := by decide +kernel
theorem dX11_missing_69 : decode cX11_missing 69 = .ok (.ishl, 1) := by decide +kernel
theorem dX11_missing_70 : decode cX11_missing 70 = .ok (.goto 4, 3) := by decide +kernel
theorem dX11_missing_73 : decode cX11_missing 73 = .ok (.iconst 0, 1) := by decide +kernel
theorem dX11_missing_74 : decode cX11_missing 74 = .ok (.ior, 1) := by decide +kernel
theorem dX11_missing_75 : decode cX11_missing 75 = .ok (.istore 4, 2) := by decide +kernel
theorem dX11_missing_77 : decode cX11_missing 77 = .ok (.iinc 5 1, 3) := by decide +kernel
theorem dX11_missing_80 : decode cX11_missing 80 = .ok (.goto (-45), 3) := by decide +kernel
theorem dX11_missing_83 : decode cX11_missing 83 = .ok (.iload 4, 2) := by decide +kernel
theorem dX11_missing_85 : decode cX11_missing 85 = .ok (.ireturn, 1) := by decide +kernel
set_option maxRecDepth 20000 in
theorem ggX11_seenBy_X11_slotOf : GoodIn wsX11_seenBy wsX11_slotOf := goodIn_r _ [7, 8, 9] (by decide +kernel) (by decide +kernel)
set_option maxRecDepth 20000 in
theorem gX11_seenBy_X11_slotOf : GoodIn wsX11_seenBy (wsV RX11 248 RX11 yX11_slotOf wsX11_slotOf) := goodIn_app (goodIn_of _ (by decide +kernel)) ggX11_seenBy_X11_slotOf
theorem dX11_seenBy_0 : decode cX11_seenBy 0 = .ok (.iconst 0, 1) := by decide +kernel
theorem dX11_seenBy_1 : decode cX11_seenBy 1 = .ok (.istore_n 3, 1) := by decide +kernel
theorem dX11_seenBy_2 : decode cX11_seenBy 2 = .ok (.iconst 0, 1) := by decide +kernel
theorem dX11_seenBy_3 : decode cX11_seenBy 3 = .ok (.istore 4, 2) := by decide +kernel
theorem dX11_seenBy_5 : decode cX11_seenBy 5 = .ok (.iload 4, 2) := by decide +kernel
theorem dX11_seenBy_7 : decode cX11_seenBy 7 = .ok (.aload_n 0, 1) := by decide +kernel
theorem dX11_seenBy_8 : decode cX11_seenBy 8 = .ok (.getfield 114, 3) := by decide +kernel
theorem dX11_seenBy_11 : decode cX11_seenBy 11 = .ok (.if_icmp .ge 94, 3) := by decide +kernel
theorem dX11_seenBy_14 : decode cX11_seenBy 14 = .ok (.iconst 1, 1) := by decide +kernel
theorem dX11_seenBy_15 : decode cX11_seenBy 15 = .ok (.istore 5, 2) := by decide +kernel
theorem dX11_seenBy_17 : decode cX11_seenBy 17 = .ok (.iconst 0, 1) := by decide +kernel
theorem dX11_seenBy_18 : decode cX11_seenBy 18 = .ok (.istore 6, 2) := by decide +kernel
theorem dX11_seenBy_20 : decode cX11_seenBy 20 = .ok (.iload 6, 2) := by decide +kernel
theorem dX11_seenBy_22 : decode cX11_seenBy 22 = .ok (.aload_n 0, 1) := by decide +kernel
theorem dX11_seenBy_23 : decode cX11_seenBy 23 = .ok (.getfield 114, 3) := by decide +kernel
theorem dX11_seenBy_26 : decode cX11_seenBy 26 = .ok (.if_icmp .ge 57, 3) := by decide +kernel
theorem dX11_seenBy_29 : decode cX11_seenBy 29 = .ok (.iload 5, 2) := by decide +kernel
theorem dX11_seenBy_31 : decode cX11_seenBy 31 = .ok (.ifCond .eq 43, 3) := by decide +kernel
theorem dX11_seenBy_34 : decode cX11_seenBy 34 = .ok (.iload 6, 2) := by decide +kernel
theorem dX11_seenBy_36 : decode cX11_seenBy 36 = .ok (.iload 4, 2) := by decide +kernel
theorem dX11_seenBy_38 : decode cX11_seenBy 38 = .ok (.if_icmp .eq 32, 3) := by decide +kernel
theorem dX11_seenBy_41 : decode cX11_seenBy 41 = .ok (.aload_n 0, 1) := by decide +kernel
theorem dX11_seenBy_42 : decode cX11_seenBy 42 = .ok (.aload_n 0, 1) := by decide +kernel
theorem dX11_seenBy_43 : decode cX11_seenBy 43 = .ok (.getfield 85, 3) := by decide +kernel
theorem dX11_seenBy_46 : decode cX11_seenBy 46 = .ok (.iload 6, 2) := by decide +kernel
theorem dX11_seenBy_48 : decode cX11_seenBy 48 = .ok (.iaload, 1) := by decide +kernel
theorem dX11_seenBy_49 : decode cX11_seenBy 49 = .ok (.iload_n 1, 1) := by decide +kernel
theorem dX11_seenBy_50 : decode cX11_seenBy 50 = .ok (.iload_n 2, 1) := by decide +kernel
theorem dX11_seenBy_51 : decode cX11_seenBy 51 = .ok (.invokevirtual 248, 3) := by decide +kernel
theorem dX11_seenBy_54 : decode cX11_seenBy 54 = .ok (.aload_n 0, 1) := by decide +kernel
theorem dX11_seenBy_55 : decode cX11_seenBy 55 = .ok (.aload_n 0, 1) := by decide +kernel
theorem dX11_seenBy_56 : decode cX11_seenBy 56 = .ok (.getfield 85, 3) := by decide +kernel
theorem dX11_seenBy_59 : decode cX11_seenBy 59 = .ok (.iload 4, 2) := by decide +kernel
theorem dX11_seenBy_61 : decode cX11_seenBy 61 = .ok (.iaload, 1) := by decide +kernel
theorem dX11_seenBy_62 : decode cX11_seenBy 62 = .ok (.iload_n 1, 1) := by decide +kernel
theorem dX11_seenBy_63 : decode cX11_seenBy 63 = .ok (.iload_n 2, 1) := by decide +kernel
theorem dX11_seenBy_64 : decode cX11_seenBy 64 = .ok (.invokevirtual 248, 3) := by decide +kernel
theorem dX11_seenBy_67 : decode cX11_seenBy 67 = .ok (.if_icmp .eq 7, 3) := by decide +kernel
theorem dX11_seenBy_70 : decode cX11_seenBy 70 = .ok (.iconst 1, 1) := by decide +kernel
theorem dX11_seenBy_71 : decode cX11_seenBy 71 = .ok (.goto 4, 3) := by decide +kernel
theorem dX11_seenBy_74 : decode cX11_seenBy 74 = .ok (.iconst 0, 1) := by decide +kernel
theorem dX11_seenBy_75 : decode cX11_seenBy 75 = .ok (.istore 5, 2) := by decide +kernel
theorem dX11_seenBy_77 : decode cX11_seenBy 77 = .ok (.iinc 6 1, 3) := by decide +kernel
theorem dX11_seenBy_80 : decode cX11_seenBy 80 = .ok (.goto (-60), 3) := by decide +kernel
theorem dX11_seenBy_83 : decode cX11_seenBy 83 = .ok (.iload_n 3, 1) := by decide +kernel
theorem dX11_seenBy_84 : decode cX11_seenBy 84 = .ok (.iload 5, 2) := by decide +kernel
theorem dX11_seenBy_86 : decode cX11_seenBy 86 = .ok (.ifCond .eq 10, 3) := by decide +kernel
theorem dX11_seenBy_89 : decode cX11_seenBy 89 = .ok (.iconst 1, 1) := by decide +kernel
theorem dX11_seenBy_90 : decode cX11_seenBy 90 = .ok (.iload 4, 2) := by decide +kernel
theorem dX11_seenBy_92 : decode cX11_seenBy 92 = .ok (.ishl, 1) := by decide +kernel
theorem dX11_seenBy_93 : decode cX11_seenBy 93 = .ok (.goto 4, 3) := by decide +kernel
theorem dX11_seenBy_96 : decode cX11_seenBy 96 = .ok (.iconst 0, 1) := by decide +kernel
theorem dX11_seenBy_97 : decode cX11_seenBy 97 = .ok (.ior, 1) := by decide +kernel
theorem dX11_seenBy_98 : decode cX11_seenBy 98 = .ok (.istore_n 3, 1) := by decide +kernel
theorem dX11_seenBy_99 : decode cX11_seenBy 99 = .ok (.iinc 4 1, 3) := by decide +kernel
theorem dX11_seenBy_102 : decode cX11_seenBy 102 = .ok (.goto (-97), 3) := by decide +kernel
theorem dX11_seenBy_105 : decode cX11_seenBy 105 = .ok (.iload_n 3, 1) := by decide +kernel
theorem dX11_seenBy_106 : decode cX11_seenBy 106 = .ok (.ireturn, 1) := by decide +kernel
set_option maxRecDepth 20000 in
theorem ggX11_seen_X11_isFrame : GoodIn wsX11_seen wsX11_isFrame := goodIn_r _ [4, 5, 6, 7, 3, 8] (by decide +kernel) (by decide +kernel)
set_option maxRecDepth 20000 in
theorem gX11_seen_X11_isFrame : GoodIn wsX11_seen (va_wsS RX11 245 yX11_isFrame wsX11_isFrame) := goodIn_app (goodIn_of _ (by decide +kernel)) ggX11_seen_X11_isFrame
set_option maxRecDepth 20000 in
theorem ggX11_seen_X11_seenBy : GoodIn wsX11_seen wsX11_seenBy := goodIn_r _ [12, 13, 14, 15, 16, 17, 3, 18, 19, 20, 21, 22, 23, 24, 25, 26, 27, 28, 29, 30, 31, 32, 33, 34, 35, 36, 37, 38, 39, 40, 41, 42, 43, 44, 45, 46, 47, 48, 49, 50, 51, 52, 53, 54, 55, 56, 57, 58, 59, 60, 61, 62, 63, 64, 65, 66, 67, 68] (by decide +kernel) (by decide +kernel)
set_option maxRecDepth 20000 in
theorem gX11_seen_X11_seenBy : GoodIn wsX11_seen (wsV RX11 306 RX11 yX11_seenBy wsX11_seenBy) := goodIn_app (goodIn_of _ (by decide +kernel)) ggX11_seen_X11_seenBy
theorem dX11_seen_0 : decode cX11_seen 0 = .ok (.iload_n 1, 1) := by decide +kernel
theorem dX11_seen_1 : decode cX11_seen 1 = .ok (.invokestatic 245, 3) := by decide +kernel
theorem dX11_seen_4 : decode cX11_seen 4 = .ok (.ifCond .eq 12, 3) := by decide +kernel
theorem dX11_seen_7 : decode cX11_seen 7 = .ok (.aload_n 0, 1) := by decide +kernel
theorem dX11_seen_8 : decode cX11_seen 8 = .ok (.iload_n 1, 1) := by decide +kernel
theorem dX11_seen_9 : decode cX11_seen 9 = .ok (.iload_n 2, 1) := by decide +kernel
theorem dX11_seen_10 : decode cX11_seen 10 = .ok (.invokevirtual 306, 3) := by decide +kernel
theorem dX11_seen_13 : decode cX11_seen 13 = .ok (.goto 4, 3) := by decide +kernel
theorem dX11_seen_16 : decode cX11_seen 16 = .ok (.iconst (-1), 1) := by decide +kernel
theorem dX11_seen_17 : decode cX11_seen 17 = .ok (.ireturn, 1) := by decide +kernel
theorem dX11_countOf_0 : decode cX11_countOf 0 = .ok (.iconst 0, 1) := by decide +kernel
theorem dX11_countOf_1 : decode cX11_countOf 1 = .ok (.istore_n 1, 1) := by decide +kernel
theorem dX11_countOf_2 : decode cX11_countOf 2 = .ok (.iconst 0, 1) := by decide +kernel
theorem dX11_countOf_3 : decode cX11_countOf 3 = .ok (.istore_n 2, 1) := by decide +kernel
theorem dX11_countOf_4 : decode cX11_countOf 4 = .ok (.iload_n 2, 1) := by decide +kernel
theorem dX11_countOf_5 : decode cX11_countOf 5 = .ok (.bipush 16, 2) := by decide +kernel
theorem dX11_countOf_7 : decode cX11_countOf 7 = .ok (.if_icmp .ge 17, 3) := by decide +kernel
theorem dX11_countOf_10 : decode cX11_countOf 10 = .ok (.iload_n 1, 1) := by decide +kernel
theorem dX11_countOf_11 : decode cX11_countOf 11 = .ok (.iload_n 0, 1) := by decide +kernel
theorem dX11_countOf_12 : decode cX11_countOf 12 = .ok (.iload_n 2, 1) := by decide +kernel
theorem dX11_countOf_13 : decode cX11_countOf 13 = .ok (.ishr, 1) := by decide +kernel
theorem dX11_countOf_14 : decode cX11_countOf 14 = .ok (.iconst 1, 1) := by decide +kernel
theorem dX11_countOf_15 : decode cX11_countOf 15 = .ok (.iand, 1) := by decide +kernel
theorem dX11_countOf_16 : decode cX11_countOf 16 = .ok (.iadd, 1) := by decide +kernel
theorem dX11_countOf_17 : decode cX11_countOf 17 = .ok (.istore_n 1, 1) := by decide +kernel
theorem dX11_countOf_18 : decode cX11_countOf 18 = .ok (.iinc 2 1, 3) := by decide +kernel
theorem dX11_countOf_21 : decode cX11_countOf 21 = .ok (.goto (-17), 3) := by decide +kernel
theorem dX11_countOf_24 : decode cX11_countOf 24 = .ok (.iload_n 1, 1) := by decide +kernel
theorem dX11_countOf_25 : decode cX11_countOf 25 = .ok (.ireturn, 1) := by decide +kernel
set_option maxRecDepth 20000 in
theorem ggX11_seed_X11_isFrame : GoodIn wsX11_seed wsX11_isFrame := goodIn_r _ [4, 5, 6, 7, 3, 8] (by decide +kernel) (by decide +kernel)
set_option maxRecDepth 20000 in
theorem gX11_seed_X11_isFrame : GoodIn wsX11_seed (va_wsS RX11 245 yX11_isFrame wsX11_isFrame) := goodIn_app (goodIn_of _ (by decide +kernel)) ggX11_seed_X11_isFrame
set_option maxRecDepth 20000 in
theorem ggX11_seed_X11_seenBy : GoodIn wsX11_seed wsX11_seenBy := goodIn_r _ [12, 13, 14, 15, 16, 17, 3, 18, 19, 20, 24, 25, 26, 27, 28, 29, 30, 31, 32, 33, 34, 35, 36, 37, 38, 39, 40, 41, 42, 43, 44, 45, 46, 47, 48, 49, 50, 51, 52, 53, 54, 55, 56, 57, 58, 59, 60, 61, 62, 63, 64, 65, 66, 67, 68, 69, 70, 71] (by decide +kernel) (by decide +kernel)
set_option maxRecDepth 20000 in
theorem gX11_seed_X11_seenBy : GoodIn wsX11_seed (wsV RX11 306 RX11 yX11_seenBy wsX11_seenBy) := goodIn_app (goodIn_of _ (by decide +kernel)) ggX11_seed_X11_seenBy
set_option maxRecDepth 20000 in
theorem ggX11_seed_X11_countOf : GoodIn wsX11_seed wsX11_countOf := goodIn_r _ [23] (by decide +kernel) (by decide +kernel)
set_option maxRecDepth 20000 in
theorem gX11_seed_X11_countOf : GoodIn wsX11_seed (va_wsS RX11 309 yX11_countOf wsX11_countOf) := goodIn_app (goodIn_of _ (by decide +kernel)) ggX11_seed_X11_countOf
theorem dX11_seed_0 : decode cX11_seed 0 = .ok (.iload_n 1, 1) := by decide +kernel
theorem dX11_seed_1 : decode cX11_seed 1 = .ok (.invokestatic 245, 3) := by decide +kernel
theorem dX11_seed_4 : decode cX11_seed 4 = .ok (.ifCond .ne 5, 3) := by decide +kernel
theorem dX11_seed_7 : decode cX11_seed 7 = .ok (.iconst (-1), 1) := by decide +kernel
theorem dX11_seed_8 : decode cX11_seed 8 = .ok (.ireturn, 1) := by decide +kernel
theorem dX11_seed_9 : decode cX11_seed 9 = .ok (.iload_n 2, 1) := by decide +kernel
theorem dX11_seed_10 : decode cX11_seed 10 = .ok (.istore_n 3, 1) := by decide +kernel
theorem dX11_seed_11 : decode cX11_seed 11 = .ok (.iconst (-1), 1) := by decide +kernel
theorem dX11_seed_12 : decode cX11_seed 12 = .ok (.istore 4, 2) := by decide +kernel
theorem dX11_seed_14 : decode cX11_seed 14 = .ok (.iconst 0, 1) := by decide +kernel
theorem dX11_seed_15 : decode cX11_seed 15 = .ok (.istore 5, 2) := by decide +kernel
theorem dX11_seed_17 : decode cX11_seed 17 = .ok (.iload 5, 2) := by decide +kernel
theorem dX11_seed_19 : decode cX11_seed 19 = .ok (.bipush 100, 2) := by decide +kernel
theorem dX11_seed_21 : decode cX11_seed 21 = .ok (.if_icmp .ge 55, 3) := by decide +kernel
theorem dX11_seed_24 : decode cX11_seed 24 = .ok (.aload_n 0, 1) := by decide +kernel
theorem dX11_seed_25 : decode cX11_seed 25 = .ok (.iload_n 1, 1) := by decide +kernel
theorem dX11_seed_26 : decode cX11_seed 26 = .ok (.iload_n 2, 1) := by decide +kernel
theorem dX11_seed_27 : decode cX11_seed 27 = .ok (.iload 5, 2) := by decide +kernel
theorem dX11_seed_29 : decode cX11_seed 29 = .ok (.iadd, 1) := by decide +kernel
theorem dX11_seed_30 : decode cX11_seed 30 = .ok (.invokevirtual 306, 3) := by decide +kernel
theorem dX11_seed_33 : decode cX11_seed 33 = .ok (.invokestatic 309, 3) := by decide +kernel
theorem dX11_seed_36 : decode cX11_seed 36 = .ok (.istore 6, 2) := by decide +kernel
theorem dX11_seed_38 : decode cX11_seed 38 = .ok (.iload 6, 2) := by decide +kernel
theorem dX11_seed_40 : decode cX11_seed 40 = .ok (.iload 4, 2) := by decide +kernel
theorem dX11_seed_42 : decode cX11_seed 42 = .ok (.if_icmp .le 10, 3) := by decide +kernel
theorem dX11_seed_45 : decode cX11_seed 45 = .ok (.iload_n 2, 1) := by decide +kernel
theorem dX11_seed_46 : decode cX11_seed 46 = .ok (.iload 5, 2) := by decide +kernel
theorem dX11_seed_48 : decode cX11_seed 48 = .ok (.iadd, 1) := by decide +kernel
theorem dX11_seed_49 : decode cX11_seed 49 = .ok (.goto 4, 3) := by decide +kernel
theorem dX11_seed_52 : decode cX11_seed 52 = .ok (.iload_n 3, 1) := by decide +kernel
theorem dX11_seed_53 : decode cX11_seed 53 = .ok (.istore_n 3, 1) := by decide +kernel
theorem dX11_seed_54 : decode cX11_seed 54 = .ok (.iload 6, 2) := by decide +kernel
theorem dX11_seed_56 : decode cX11_seed 56 = .ok (.iload 4, 2) := by decide +kernel
theorem dX11_seed_58 : decode cX11_seed 58 = .ok (.if_icmp .le 8, 3) := by decide +kernel
theorem dX11_seed_61 : decode cX11_seed 61 = .ok (.iload 6, 2) := by decide +kernel
theorem dX11_seed_63 : decode cX11_seed 63 = .ok (.goto 5, 3) := by decide +kernel
theorem dX11_seed_66 : decode cX11_seed 66 = .ok (.iload 4, 2) := by decide +kernel
theorem dX11_seed_68 : decode cX11_seed 68 = .ok (.istore 4, 2) := by decide +kernel
theorem dX11_seed_70 : decode cX11_seed 70 = .ok (.iinc 5 1, 3) := by decide +kernel
theorem dX11_seed_73 : decode cX11_seed 73 = .ok (.goto (-56), 3) := by decide +kernel
theorem dX11_seed_76 : decode cX11_seed 76 = .ok (.iload_n 3, 1) := by decide +kernel
theorem dX11_seed_77 : decode cX11_seed 77 = .ok (.ireturn, 1) := by decide +kernel
set_option maxRecDepth 20000 in
theorem ggX11_isSheet_X11_in : GoodIn wsX11_isSheet wsX11_in := goodIn_r _ [6] (by decide +kernel) (by decide +kernel)
set_option maxRecDepth 20000 in
theorem gX11_isSheet_X11_in : GoodIn wsX11_isSheet (va_wsS RX11 103 yX11_in wsX11_in) := goodIn_app (goodIn_of _ (by decide +kernel)) ggX11_isSheet_X11_in
theorem dX11_isSheet_0 : decode cX11_isSheet 0 = .ok (.iload_n 0, 1) := by decide +kernel
theorem dX11_isSheet_1 : decode cX11_isSheet 1 = .ok (.i2l, 1) := by decide +kernel
theorem dX11_isSheet_2 : decode cX11_isSheet 2 = .ok (.lconst 0, 1) := by decide +kernel
theorem dX11_isSheet_3 : decode cX11_isSheet 3 = .ok (.ldc2_w 267, 3) := by decide +kernel
theorem dX11_isSheet_6 : decode cX11_isSheet 6 = .ok (.invokestatic 103, 3) := by decide +kernel
theorem dX11_isSheet_9 : decode cX11_isSheet 9 = .ok (.ifCond .eq 19, 3) := by decide +kernel
theorem dX11_isSheet_12 : decode cX11_isSheet 12 = .ok (.iload_n 1, 1) := by decide +kernel
theorem dX11_isSheet_13 : decode cX11_isSheet 13 = .ok (.i2l, 1) := by decide +kernel
theorem dX11_isSheet_14 : decode cX11_isSheet 14 = .ok (.lconst 0, 1) := by decide +kernel
theorem dX11_isSheet_15 : decode cX11_isSheet 15 = .ok (.ldc2_w 110, 3) := by decide +kernel
theorem dX11_isSheet_18 : decode cX11_isSheet 18 = .ok (.invokestatic 103, 3) := by decide +kernel
theorem dX11_isSheet_21 : decode cX11_isSheet 21 = .ok (.ifCond .eq 7, 3) := by decide +kernel
theorem dX11_isSheet_24 : decode cX11_isSheet 24 = .ok (.iconst 1, 1) := by decide +kernel
theorem dX11_isSheet_25 : decode cX11_isSheet 25 = .ok (.goto 4, 3) := by decide +kernel
theorem dX11_isSheet_28 : decode cX11_isSheet 28 = .ok (.iconst 0, 1) := by decide +kernel
theorem dX11_isSheet_29 : decode cX11_isSheet 29 = .ok (.ireturn, 1) := by decide +kernel
set_option maxRecDepth 20000 in
theorem ggX11_sheet_X11_isSheet : GoodIn wsX11_sheet wsX11_isSheet := goodIn_r _ [7, 8, 9, 10, 11, 6, 12] (by decide +kernel) (by decide +kernel)
set_option maxRecDepth 20000 in
theorem gX11_sheet_X11_isSheet : GoodIn wsX11_sheet (va_wsS RX11 312 yX11_isSheet wsX11_isSheet) := goodIn_app (goodIn_of _ (by decide +kernel)) ggX11_sheet_X11_isSheet
theorem dX11_sheet_0 : decode cX11_sheet 0 = .ok (.iload_n 1, 1) := by decide +kernel
theorem dX11_sheet_1 : decode cX11_sheet 1 = .ok (.iload_n 2, 1) := by decide +kernel
theorem dX11_sheet_2 : decode cX11_sheet 2 = .ok (.invokestatic 312, 3) := by decide +kernel
theorem dX11_sheet_5 : decode cX11_sheet 5 = .ok (.ifCond .eq 9, 3) := by decide +kernel
theorem dX11_sheet_8 : decode cX11_sheet 8 = .ok (.iload_n 3, 1) := by decide +kernel
theorem dX11_sheet_9 : decode cX11_sheet 9 = .ok (.bipush 40, 2) := by decide +kernel
theorem dX11_sheet_11 : decode cX11_sheet 11 = .ok (.if_icmp .le 5, 3) := by decide +kernel
theorem dX11_sheet_14 : decode cX11_sheet 14 = .ok (.iconst (-1), 1) := by decide +kernel
theorem dX11_sheet_15 : decode cX11_sheet 15 = .ok (.ireturn, 1) := by decide +kernel
theorem dX11_sheet_16 : decode cX11_sheet 16 = .ok (.iload_n 3, 1) := by decide +kernel
theorem dX11_sheet_17 : decode cX11_sheet 17 = .ok (.ifCond .ge 6, 3) := by decide +kernel
theorem dX11_sheet_20 : decode cX11_sheet 20 = .ok (.bipush (-14), 2) := by decide +kernel
theorem dX11_sheet_22 : decode cX11_sheet 22 = .ok (.ireturn, 1) := by decide +kernel
theorem dX11_sheet_23 : decode cX11_sheet 23 = .ok (.aload_n 0, 1) := by decide +kernel
theorem dX11_sheet_24 : decode cX11_sheet 24 = .ok (.getfield 88, 3) := by decide +kernel
theorem dX11_sheet_27 : decode cX11_sheet 27 = .ok (.iload_n 1, 1) := by decide +kernel
theorem dX11_sheet_28 : decode cX11_sheet 28 = .ok (.iload_n 2, 1) := by decide +kernel
theorem dX11_sheet_29 : decode cX11_sheet 29 = .ok (.iastore, 1) := by decide +kernel
theorem dX11_sheet_30 : decode cX11_sheet 30 = .ok (.aload_n 0, 1) := by decide +kernel
theorem dX11_sheet_31 : decode cX11_sheet 31 = .ok (.getfield 91, 3) := by decide +kernel
theorem dX11_sheet_34 : decode cX11_sheet 34 = .ok (.iload_n 1, 1) := by decide +kernel
theorem dX11_sheet_35 : decode cX11_sheet 35 = .ok (.iload_n 3, 1) := by decide +kernel
theorem dX11_sheet_36 : decode cX11_sheet 36 = .ok (.iastore, 1) := by decide +kernel
theorem dX11_sheet_37 : decode cX11_sheet 37 = .ok (.iconst 0, 1) := by decide +kernel
theorem dX11_sheet_38 : decode cX11_sheet 38 = .ok (.istore 4, 2) := by decide +kernel
theorem dX11_sheet_40 : decode cX11_sheet 40 = .ok (.iload 4, 2) := by decide +kernel
theorem dX11_sheet_42 : decode cX11_sheet 42 = .ok (.bipush 40, 2) := by decide +kernel
theorem dX11_sheet_44 : decode cX11_sheet 44 = .ok (.if_icmp .ge 22, 3) := by decide +kernel
theorem dX11_sheet_47 : decode cX11_sheet 47 = .ok (.aload_n 0, 1) := by decide +kernel
theorem dX11_sheet_48 : decode cX11_sheet 48 = .ok (.getfield 94, 3) := by decide +kernel
theorem dX11_sheet_51 : decode cX11_sheet 51 = .ok (.bipush 40, 2) := by decide +kernel
theorem dX11_sheet_53 : decode cX11_sheet 53 = .ok (.iload_n 1, 1) := by decide +kernel
theorem dX11_sheet_54 : decode cX11_sheet 54 = .ok (.imul, 1) := by decide +kernel
theorem dX11_sheet_55 : decode cX11_sheet 55 = .ok (.iload 4, 2) := by decide +kernel
theorem dX11_sheet_57 : decode cX11_sheet 57 = .ok (.iadd, 1) := by decide +kernel
theorem dX11_sheet_58 : decode cX11_sheet 58 = .ok (.iconst 0, 1) := by decide +kernel
theorem dX11_sheet_59 : decode cX11_sheet 59 = .ok (.iastore, 1) := by decide +kernel
theorem dX11_sheet_60 : decode cX11_sheet 60 = .ok (.iinc 4 1, 3) := by decide +kernel
theorem dX11_sheet_63 : decode cX11_sheet 63 = .ok (.goto (-23), 3) := by decide +kernel
theorem dX11_sheet_66 : decode cX11_sheet 66 = .ok (.iconst 1, 1) := by decide +kernel
theorem dX11_sheet_67 : decode cX11_sheet 67 = .ok (.ireturn, 1) := by decide +kernel
set_option maxRecDepth 20000 in
theorem ggX11_lay_X11_isSheet : GoodIn wsX11_lay wsX11_isSheet := goodIn_r _ [7, 8, 9, 10, 11, 6, 12] (by decide +kernel) (by decide +kernel)
set_option maxRecDepth 20000 in
theorem gX11_lay_X11_isSheet : GoodIn wsX11_lay (va_wsS RX11 312 yX11_isSheet wsX11_isSheet) := goodIn_app (goodIn_of _ (by decide +kernel)) ggX11_lay_X11_isSheet
set_option maxRecDepth 20000 in
theorem ggX11_lay_X11_in : GoodIn wsX11_lay wsX11_in := goodIn_r _ [12] (by decide +kernel) (by decide +kernel)
set_option maxRecDepth 20000 in
theorem gX11_lay_X11_in : GoodIn wsX11_lay (va_wsS RX11 103 yX11_in wsX11_in) := goodIn_app (goodIn_of _ (by decide +kernel)) ggX11_lay_X11_in
theorem dX11_lay_0 : decode cX11_lay 0 = .ok (.iload_n 1, 1) := by decide +kernel
theorem dX11_lay_1 : decode cX11_lay 1 = .ok (.iconst 0, 1) := by decide +kernel
theorem dX11_lay_2 : decode cX11_lay 2 = .ok (.invokestatic 312, 3) := by decide +kernel
theorem dX11_lay_5 : decode cX11_lay 5 = .ok (.ifCond .ne 5, 3) := by decide +kernel
theorem dX11_lay_8 : decode cX11_lay 8 = .ok (.iconst (-1), 1) := by decide +kernel
theorem dX11_lay_9 : decode cX11_lay 9 = .ok (.ireturn, 1) := by decide +kernel
theorem dX11_lay_10 : decode cX11_lay 10 = .ok (.aload_n 0, 1) := by decide +kernel
theorem dX11_lay_11 : decode cX11_lay 11 = .ok (.getfield 88, 3) := by decide +kernel
theorem dX11_lay_14 : decode cX11_lay 14 = .ok (.iload_n 1, 1) := by decide +kernel
theorem dX11_lay_15 : decode cX11_lay 15 = .ok (.iaload, 1) := by decide +kernel
theorem dX11_lay_16 : decode cX11_lay 16 = .ok (.bipush (-4), 2) := by decide +kernel
theorem dX11_lay_18 : decode cX11_lay 18 = .ok (.if_icmp .ne 6, 3) := by decide +kernel
theorem dX11_lay_21 : decode cX11_lay 21 = .ok (.bipush (-11), 2) := by decide +kernel
theorem dX11_lay_23 : decode cX11_lay 23 = .ok (.ireturn, 1) := by decide +kernel
theorem dX11_lay_24 : decode cX11_lay 24 = .ok (.iload_n 2, 1) := by decide +kernel
theorem dX11_lay_25 : decode cX11_lay 25 = .ok (.i2l, 1) := by decide +kernel
theorem dX11_lay_26 : decode cX11_lay 26 = .ok (.lconst 0, 1) := by decide +kernel
theorem dX11_lay_27 : decode cX11_lay 27 = .ok (.aload_n 0, 1) := by decide +kernel
theorem dX11_lay_28 : decode cX11_lay 28 = .ok (.getfield 91, 3) := by decide +kernel
theorem dX11_lay_31 : decode cX11_lay 31 = .ok (.iload_n 1, 1) := by decide +kernel
theorem dX11_lay_32 : decode cX11_lay 32 = .ok (.iaload, 1) := by decide +kernel
theorem dX11_lay_33 : decode cX11_lay 33 = .ok (.iconst 1, 1) := by decide +kernel
theorem dX11_lay_34 : decode cX11_lay 34 = .ok (.isub, 1) := by decide +kernel
theorem dX11_lay_35 : decode cX11_lay 35 = .ok (.i2l, 1) := by decide +kernel
theorem dX11_lay_36 : decode cX11_lay 36 = .ok (.invokestatic 103, 3) := by decide +kernel
theorem dX11_lay_39 : decode cX11_lay 39 = .ok (.ifCond .ne 6, 3) := by decide +kernel
theorem dX11_lay_42 : decode cX11_lay 42 = .ok (.bipush (-12), 2) := by decide +kernel
theorem dX11_lay_44 : decode cX11_lay 44 = .ok (.ireturn, 1) := by decide +kernel
theorem dX11_lay_45 : decode cX11_lay 45 = .ok (.aload_n 0, 1) := by decide +kernel
theorem dX11_lay_46 : decode cX11_lay 46 = .ok (.getfield 94, 3) := by decide +kernel
theorem dX11_lay_49 : decode cX11_lay 49 = .ok (.bipush 40, 2) := by decide +kernel
theorem dX11_lay_51 : decode cX11_lay 51 = .ok (.iload_n 1, 1) := by decide +kernel
theorem dX11_lay_52 : decode cX11_lay 52 = .ok (.imul, 1) := by decide +kernel
theorem dX11_lay_53 : decode cX11_lay 53 = .ok (.iload_n 2, 1) := by decide +kernel
theorem dX11_lay_54 : decode cX11_lay 54 = .ok (.iadd, 1) := by decide +kernel
